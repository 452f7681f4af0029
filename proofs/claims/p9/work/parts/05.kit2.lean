/-! numbers: an int or long and the integer that it is -/
theorem jrg {x : Int32} {A : Int} (h : x.toInt = A) : -2147483648 ≤ A ∧ A ≤ 2147483647 := by
  have h1 := Int32.le_toInt x
  have h2 := Int32.toInt_lt x
  omega
theorem jrgL {x : Int64} {A : Int} (h : x.toInt = A) : -9223372036854775808 ≤ A ∧ A ≤ 9223372036854775807 := by
  have h1 := Int64.le_toInt x
  have h2 := Int64.toInt_lt x
  omega
theorem jbm {z : Int} (h1 : -2147483648 ≤ z) (h2 : z ≤ 2147483647) : z.bmod (2 ^ 32) = z := by
  rw [Int.bmod_eq_of_le] <;> omega
theorem jbmL {z : Int} (h1 : -9223372036854775808 ≤ z) (h2 : z ≤ 9223372036854775807) : z.bmod (2 ^ 64) = z := by
  rw [Int.bmod_eq_of_le] <;> omega
theorem jadd {x a b : Int32} {A B : Int} (e : x = a + b) (ha : a.toInt = A) (hb : b.toInt = B) (h1 : -2147483648 ≤ A + B) (h2 : A + B ≤ 2147483647) : x.toInt = A + B := by
  rw [e, Int32.toInt_add, ha, hb]; exact jbm h1 h2
theorem jsub {x a b : Int32} {A B : Int} (e : x = a - b) (ha : a.toInt = A) (hb : b.toInt = B) (h1 : -2147483648 ≤ A - B) (h2 : A - B ≤ 2147483647) : x.toInt = A - B := by
  rw [e, Int32.toInt_sub, ha, hb]; exact jbm h1 h2
theorem jmul {x a b : Int32} {A B : Int} (e : x = a * b) (ha : a.toInt = A) (hb : b.toInt = B) (h1 : -2147483648 ≤ A * B) (h2 : A * B ≤ 2147483647) : x.toInt = A * B := by
  rw [e, Int32.toInt_mul, ha, hb]; exact jbm h1 h2
theorem jneg {x a : Int32} {A : Int} (e : x = -a) (ha : a.toInt = A) (h1 : -2147483648 < A) : x.toInt = -A := by
  have := jrg ha
  rw [e, Int32.toInt_neg, ha]; exact jbm (by omega) (by omega)
theorem jdiv {x a b : Int32} {A B : Int} (e : x = a / b) (ha : a.toInt = A) (hb : b.toInt = B) (h0 : 0 ≤ A) (h1 : 0 < B) : x.toInt = A / B := by
  have := jrg ha
  have h3 : 0 ≤ A / B := Int.ediv_nonneg h0 (by omega)
  have h4 : A / B ≤ A := Int.ediv_le_self B h0
  rw [e, Int32.toInt_div, ha, hb, Int.tdiv_eq_ediv_of_nonneg h0]; exact jbm (by omega) (by omega)
theorem jrem {x a b : Int32} {A B : Int} (e : x = a - a / b * b) (ha : a.toInt = A) (hb : b.toInt = B) (h0 : 0 ≤ A) : x.toInt = A % B := by
  rw [e, rem_toInt, ha, hb, Int.tmod_eq_emod_of_nonneg h0]
theorem jtoL {x : Int32} {A : Int} (h : x.toInt = A) : x.toInt64.toInt = A := by rw [Int32.toInt_toInt64, h]
theorem jlt {x y : Int32} {A B : Int} (h : x < y) (ha : x.toInt = A) (hb : y.toInt = B) : A < B := by rw [← ha, ← hb]; exact Int32.lt_iff_toInt_lt.mp h
theorem jle {x y : Int32} {A B : Int} (h : x ≤ y) (ha : x.toInt = A) (hb : y.toInt = B) : A ≤ B := by rw [← ha, ← hb]; exact Int32.le_iff_toInt_le.mp h
theorem jnlt {x y : Int32} {A B : Int} (h : ¬ x < y) (ha : x.toInt = A) (hb : y.toInt = B) : B ≤ A := by
  rw [← ha, ← hb]; rw [Int32.lt_iff_toInt_lt] at h; omega
theorem jnle {x y : Int32} {A B : Int} (h : ¬ x ≤ y) (ha : x.toInt = A) (hb : y.toInt = B) : B < A := by
  rw [← ha, ← hb]; rw [Int32.le_iff_toInt_le] at h; omega
theorem jeq {x y : Int32} {A B : Int} (h : x = y) (ha : x.toInt = A) (hb : y.toInt = B) : A = B := by rw [← ha, ← hb, h]
theorem jne {x y : Int32} {A B : Int} (h : ¬ x = y) (ha : x.toInt = A) (hb : y.toInt = B) : A ≠ B := by
  rw [← ha, ← hb]; exact fun q => h (Int32.toInt_inj.mp q)
theorem jsame {x y : Int32} {A B : Int} (ha : x.toInt = A) (hb : y.toInt = B) (h : A = B) : x = y := Int32.toInt_inj.mp (by rw [ha, hb, h])
theorem jin {x : Int32} {A : Int} {n : Nat} (ha : x.toInt = A) (h0 : 0 ≤ A) (h1 : A < n) : vp_in x n := vp_in_iff.mpr (by rw [ha]; exact ⟨h0, h1⟩)
theorem jnat {x : Int32} {A : Int} {n : Nat} (ha : x.toInt = A) (h1 : A < n) (h2 : 0 < n) : x.toNatClampNeg < n := by
  show x.toInt.toNat < n
  omega
theorem jcmp {x y : Int64} {A B : Int} (ha : x.toInt = A) (hb : y.toInt = B) : (A < B ∧ lg_cmp x y = -1) ∨ (A = B ∧ lg_cmp x y = 0) ∨ (B < A ∧ lg_cmp x y = 1) := by
  unfold lg_cmp
  simp only [gt_iff_lt, Int64.lt_iff_toInt_lt, ← Int64.toInt_inj, ha, hb]
  rcases Int.lt_trichotomy A B with h | h | h
  · exact Or.inl ⟨h, by rw [if_neg (by omega), if_neg (by omega)]⟩
  · exact Or.inr (Or.inl ⟨h, by rw [if_neg (by omega), if_pos h]⟩)
  · exact Or.inr (Or.inr ⟨h, by rw [if_pos h]⟩)
theorem jclt {x y : Int64} {A B : Int} (h : lg_cmp x y < 0) (ha : x.toInt = A) (hb : y.toInt = B) : A < B := by
  rcases jcmp ha hb with ⟨h1, e⟩ | ⟨h1, e⟩ | ⟨h1, e⟩ <;> rw [e] at h <;> first | exact h1 | exact absurd h (by decide)
theorem jcnlt {x y : Int64} {A B : Int} (h : ¬ lg_cmp x y < 0) (ha : x.toInt = A) (hb : y.toInt = B) : B ≤ A := by
  rcases jcmp ha hb with ⟨h1, e⟩ | ⟨h1, e⟩ | ⟨h1, e⟩ <;> rw [e] at h <;> first | omega | exact absurd (by decide) h
theorem jcge {x y : Int64} {A B : Int} (h : 0 ≤ lg_cmp x y) (ha : x.toInt = A) (hb : y.toInt = B) : B ≤ A := by
  rcases jcmp ha hb with ⟨h1, e⟩ | ⟨h1, e⟩ | ⟨h1, e⟩ <;> rw [e] at h <;> first | omega | exact absurd h (by decide)
theorem jcnge {x y : Int64} {A B : Int} (h : ¬ 0 ≤ lg_cmp x y) (ha : x.toInt = A) (hb : y.toInt = B) : A < B := by
  rcases jcmp ha hb with ⟨h1, e⟩ | ⟨h1, e⟩ | ⟨h1, e⟩ <;> rw [e] at h <;> first | omega | exact absurd (by decide) h
theorem jcgt {x y : Int64} {A B : Int} (h : 0 < lg_cmp x y) (ha : x.toInt = A) (hb : y.toInt = B) : B < A := by
  rcases jcmp ha hb with ⟨h1, e⟩ | ⟨h1, e⟩ | ⟨h1, e⟩ <;> rw [e] at h <;> first | omega | exact absurd h (by decide)
theorem jcngt {x y : Int64} {A B : Int} (h : ¬ 0 < lg_cmp x y) (ha : x.toInt = A) (hb : y.toInt = B) : A ≤ B := by
  rcases jcmp ha hb with ⟨h1, e⟩ | ⟨h1, e⟩ | ⟨h1, e⟩ <;> rw [e] at h <;> first | omega | exact absurd (by decide) h
theorem jcle {x y : Int64} {A B : Int} (h : lg_cmp x y ≤ 0) (ha : x.toInt = A) (hb : y.toInt = B) : A ≤ B := by
  rcases jcmp ha hb with ⟨h1, e⟩ | ⟨h1, e⟩ | ⟨h1, e⟩ <;> rw [e] at h <;> first | omega | exact absurd h (by decide)
theorem jcnle {x y : Int64} {A B : Int} (h : ¬ lg_cmp x y ≤ 0) (ha : x.toInt = A) (hb : y.toInt = B) : B < A := by
  rcases jcmp ha hb with ⟨h1, e⟩ | ⟨h1, e⟩ | ⟨h1, e⟩ <;> rw [e] at h <;> first | omega | exact absurd (by decide) h
theorem jceq {x y : Int64} {A B : Int} (h : lg_cmp x y = 0) (ha : x.toInt = A) (hb : y.toInt = B) : A = B := by
  rcases jcmp ha hb with ⟨h1, e⟩ | ⟨h1, e⟩ | ⟨h1, e⟩ <;> rw [e] at h <;> first | omega | exact absurd h (by decide)
theorem jcne {x y : Int64} {A B : Int} (h : ¬ lg_cmp x y = 0) (ha : x.toInt = A) (hb : y.toInt = B) : A ≠ B := by
  rcases jcmp ha hb with ⟨h1, e⟩ | ⟨h1, e⟩ | ⟨h1, e⟩ <;> rw [e] at h <;> first | omega | exact absurd (by decide) h
theorem jz_0 : (0 : Int32).toInt = 0 := by decide
theorem jz_1 : (1 : Int32).toInt = 1 := by decide
theorem jz_2 : (2 : Int32).toInt = 2 := by decide
theorem jz_3 : (3 : Int32).toInt = 3 := by decide
theorem jz_4 : (4 : Int32).toInt = 4 := by decide
theorem jz_5 : (5 : Int32).toInt = 5 := by decide
theorem jz_6 : (6 : Int32).toInt = 6 := by decide
theorem jz_7 : (7 : Int32).toInt = 7 := by decide
theorem jz_8 : (8 : Int32).toInt = 8 := by decide
theorem jz_9 : (9 : Int32).toInt = 9 := by decide
theorem jz_10 : (10 : Int32).toInt = 10 := by decide
theorem jz_11 : (11 : Int32).toInt = 11 := by decide
theorem jz_12 : (12 : Int32).toInt = 12 := by decide
theorem jz_13 : (13 : Int32).toInt = 13 := by decide
theorem jz_14 : (14 : Int32).toInt = 14 := by decide
theorem jz_15 : (15 : Int32).toInt = 15 := by decide
theorem jz_16 : (16 : Int32).toInt = 16 := by decide
theorem jz_17 : (17 : Int32).toInt = 17 := by decide
theorem jz_18 : (18 : Int32).toInt = 18 := by decide
theorem jz_19 : (19 : Int32).toInt = 19 := by decide
theorem jz_20 : (20 : Int32).toInt = 20 := by decide
theorem jz_21 : (21 : Int32).toInt = 21 := by decide
theorem jz_22 : (22 : Int32).toInt = 22 := by decide
theorem jz_23 : (23 : Int32).toInt = 23 := by decide
theorem jz_24 : (24 : Int32).toInt = 24 := by decide
theorem jz_25 : (25 : Int32).toInt = 25 := by decide
theorem jz_26 : (26 : Int32).toInt = 26 := by decide
theorem jz_27 : (27 : Int32).toInt = 27 := by decide
theorem jz_28 : (28 : Int32).toInt = 28 := by decide
theorem jz_29 : (29 : Int32).toInt = 29 := by decide
theorem jz_30 : (30 : Int32).toInt = 30 := by decide
theorem jz_31 : (31 : Int32).toInt = 31 := by decide
theorem jz_32 : (32 : Int32).toInt = 32 := by decide
theorem jz_33 : (33 : Int32).toInt = 33 := by decide
theorem jz_34 : (34 : Int32).toInt = 34 := by decide
theorem jz_35 : (35 : Int32).toInt = 35 := by decide
theorem jz_36 : (36 : Int32).toInt = 36 := by decide
theorem jz_37 : (37 : Int32).toInt = 37 := by decide
theorem jz_38 : (38 : Int32).toInt = 38 := by decide
theorem jz_39 : (39 : Int32).toInt = 39 := by decide
theorem jz_40 : (40 : Int32).toInt = 40 := by decide
theorem jz_41 : (41 : Int32).toInt = 41 := by decide
theorem jz_42 : (42 : Int32).toInt = 42 := by decide
theorem jz_43 : (43 : Int32).toInt = 43 := by decide
theorem jz_44 : (44 : Int32).toInt = 44 := by decide
theorem jz_45 : (45 : Int32).toInt = 45 := by decide
theorem jz_46 : (46 : Int32).toInt = 46 := by decide
theorem jz_47 : (47 : Int32).toInt = 47 := by decide
theorem jz_48 : (48 : Int32).toInt = 48 := by decide
theorem jz_49 : (49 : Int32).toInt = 49 := by decide
theorem jz_50 : (50 : Int32).toInt = 50 := by decide
theorem jz_51 : (51 : Int32).toInt = 51 := by decide
theorem jz_52 : (52 : Int32).toInt = 52 := by decide
theorem jz_53 : (53 : Int32).toInt = 53 := by decide
theorem jz_54 : (54 : Int32).toInt = 54 := by decide
theorem jz_55 : (55 : Int32).toInt = 55 := by decide
theorem jz_56 : (56 : Int32).toInt = 56 := by decide
theorem jz_57 : (57 : Int32).toInt = 57 := by decide
theorem jz_58 : (58 : Int32).toInt = 58 := by decide
theorem jz_59 : (59 : Int32).toInt = 59 := by decide
theorem jz_60 : (60 : Int32).toInt = 60 := by decide
theorem jz_61 : (61 : Int32).toInt = 61 := by decide
theorem jz_62 : (62 : Int32).toInt = 62 := by decide
theorem jz_63 : (63 : Int32).toInt = 63 := by decide
theorem jz_64 : (64 : Int32).toInt = 64 := by decide
theorem jz_65 : (65 : Int32).toInt = 65 := by decide
theorem jz_66 : (66 : Int32).toInt = 66 := by decide
theorem jz_67 : (67 : Int32).toInt = 67 := by decide
theorem jz_68 : (68 : Int32).toInt = 68 := by decide
theorem jz_69 : (69 : Int32).toInt = 69 := by decide
theorem jz_70 : (70 : Int32).toInt = 70 := by decide
theorem jz_71 : (71 : Int32).toInt = 71 := by decide
theorem jz_72 : (72 : Int32).toInt = 72 := by decide
theorem jz_73 : (73 : Int32).toInt = 73 := by decide
theorem jz_74 : (74 : Int32).toInt = 74 := by decide
theorem jz_75 : (75 : Int32).toInt = 75 := by decide
theorem jz_76 : (76 : Int32).toInt = 76 := by decide
theorem jz_77 : (77 : Int32).toInt = 77 := by decide
theorem jz_78 : (78 : Int32).toInt = 78 := by decide
theorem jz_79 : (79 : Int32).toInt = 79 := by decide
theorem jz_80 : (80 : Int32).toInt = 80 := by decide
theorem jz_81 : (81 : Int32).toInt = 81 := by decide
theorem jz_82 : (82 : Int32).toInt = 82 := by decide
theorem jz_83 : (83 : Int32).toInt = 83 := by decide
theorem jz_84 : (84 : Int32).toInt = 84 := by decide
theorem jz_85 : (85 : Int32).toInt = 85 := by decide
theorem jz_86 : (86 : Int32).toInt = 86 := by decide
theorem jz_87 : (87 : Int32).toInt = 87 := by decide
theorem jz_88 : (88 : Int32).toInt = 88 := by decide
theorem jz_89 : (89 : Int32).toInt = 89 := by decide
theorem jz_90 : (90 : Int32).toInt = 90 := by decide
theorem jz_91 : (91 : Int32).toInt = 91 := by decide
theorem jz_92 : (92 : Int32).toInt = 92 := by decide
theorem jz_93 : (93 : Int32).toInt = 93 := by decide
theorem jz_94 : (94 : Int32).toInt = 94 := by decide
theorem jz_95 : (95 : Int32).toInt = 95 := by decide
theorem jz_96 : (96 : Int32).toInt = 96 := by decide
theorem jz_97 : (97 : Int32).toInt = 97 := by decide
theorem jz_98 : (98 : Int32).toInt = 98 := by decide
theorem jz_99 : (99 : Int32).toInt = 99 := by decide
theorem jz_100 : (100 : Int32).toInt = 100 := by decide
theorem jz_101 : (101 : Int32).toInt = 101 := by decide
theorem jz_102 : (102 : Int32).toInt = 102 := by decide
theorem jz_103 : (103 : Int32).toInt = 103 := by decide
theorem jz_104 : (104 : Int32).toInt = 104 := by decide
theorem jz_105 : (105 : Int32).toInt = 105 := by decide
theorem jz_106 : (106 : Int32).toInt = 106 := by decide
theorem jz_107 : (107 : Int32).toInt = 107 := by decide
theorem jz_108 : (108 : Int32).toInt = 108 := by decide
theorem jz_109 : (109 : Int32).toInt = 109 := by decide
theorem jz_110 : (110 : Int32).toInt = 110 := by decide
theorem jz_111 : (111 : Int32).toInt = 111 := by decide
theorem jz_112 : (112 : Int32).toInt = 112 := by decide
theorem jz_113 : (113 : Int32).toInt = 113 := by decide
theorem jz_114 : (114 : Int32).toInt = 114 := by decide
theorem jz_115 : (115 : Int32).toInt = 115 := by decide
theorem jz_116 : (116 : Int32).toInt = 116 := by decide
theorem jz_117 : (117 : Int32).toInt = 117 := by decide
theorem jz_118 : (118 : Int32).toInt = 118 := by decide
theorem jz_119 : (119 : Int32).toInt = 119 := by decide
theorem jz_120 : (120 : Int32).toInt = 120 := by decide
theorem jz_121 : (121 : Int32).toInt = 121 := by decide
theorem jz_122 : (122 : Int32).toInt = 122 := by decide
theorem jz_123 : (123 : Int32).toInt = 123 := by decide
theorem jz_124 : (124 : Int32).toInt = 124 := by decide
theorem jz_125 : (125 : Int32).toInt = 125 := by decide
theorem jz_126 : (126 : Int32).toInt = 126 := by decide
theorem jz_127 : (127 : Int32).toInt = 127 := by decide
theorem jz_128 : (128 : Int32).toInt = 128 := by decide
theorem jz_131 : (131 : Int32).toInt = 131 := by decide
theorem jz_136 : (136 : Int32).toInt = 136 := by decide
theorem jz_150 : (150 : Int32).toInt = 150 := by decide
theorem jz_160 : (160 : Int32).toInt = 160 := by decide
theorem jz_200 : (200 : Int32).toInt = 200 := by decide
theorem jz_255 : (255 : Int32).toInt = 255 := by decide
theorem jz_256 : (256 : Int32).toInt = 256 := by decide
theorem jz_350 : (350 : Int32).toInt = 350 := by decide
theorem jz_400 : (400 : Int32).toInt = 400 := by decide
theorem jz_500 : (500 : Int32).toInt = 500 := by decide
theorem jz_512 : (512 : Int32).toInt = 512 := by decide
theorem jz_1000 : (1000 : Int32).toInt = 1000 := by decide
theorem jz_1023 : (1023 : Int32).toInt = 1023 := by decide
theorem jz_1024 : (1024 : Int32).toInt = 1024 := by decide
theorem jz_1400 : (1400 : Int32).toInt = 1400 := by decide
theorem jz_3159 : (3159 : Int32).toInt = 3159 := by decide
theorem jz_4095 : (4095 : Int32).toInt = 4095 := by decide
theorem jz_4096 : (4096 : Int32).toInt = 4096 := by decide
theorem jz_9999 : (9999 : Int32).toInt = 9999 := by decide
theorem jz_10000 : (10000 : Int32).toInt = 10000 := by decide
theorem jz_10007 : (10007 : Int32).toInt = 10007 := by decide
theorem jz_10008 : (10008 : Int32).toInt = 10008 := by decide
theorem jz_20000 : (20000 : Int32).toInt = 20000 := by decide
theorem jz_65535 : (65535 : Int32).toInt = 65535 := by decide
theorem jz_65536 : (65536 : Int32).toInt = 65536 := by decide
theorem jz_99999999 : (99999999 : Int32).toInt = 99999999 := by decide
theorem jz_44444444 : (44444444 : Int32).toInt = 44444444 := by decide
theorem jz_1000000 : (1000000 : Int32).toInt = 1000000 := by decide
theorem jz_2000000000 : (2000000000 : Int32).toInt = 2000000000 := by decide
theorem jz_40503 : (40503 : Int32).toInt = 40503 := by decide
theorem jz_134217727 : (134217727 : Int32).toInt = 134217727 := by decide
theorem jz_m1 : (-1 : Int32).toInt = -1 := by decide
theorem jz_m2 : (-2 : Int32).toInt = -2 := by decide
theorem jz_m3 : (-3 : Int32).toInt = -3 := by decide
theorem jz_m4 : (-4 : Int32).toInt = -4 := by decide
theorem jz_m5 : (-5 : Int32).toInt = -5 := by decide
theorem jz_m9 : (-9 : Int32).toInt = -9 := by decide
theorem jz_m11 : (-11 : Int32).toInt = -11 := by decide
theorem jz_m12 : (-12 : Int32).toInt = -12 := by decide
theorem jz_m13 : (-13 : Int32).toInt = -13 := by decide
theorem jz_m14 : (-14 : Int32).toInt = -14 := by decide
theorem jz_m19 : (-19 : Int32).toInt = -19 := by decide
theorem jz_m100 : (-100 : Int32).toInt = -100 := by decide
theorem jz_m200 : (-200 : Int32).toInt = -200 := by decide
theorem jz_m2000000000 : (-2000000000 : Int32).toInt = -2000000000 := by decide
theorem jzl_0 : (0 : Int64).toInt = 0 := by decide
theorem jzl_1 : (1 : Int64).toInt = 1 := by decide
theorem jzl_2 : (2 : Int64).toInt = 2 := by decide
theorem jzl_3 : (3 : Int64).toInt = 3 := by decide
theorem jzl_4 : (4 : Int64).toInt = 4 := by decide
theorem jzl_5 : (5 : Int64).toInt = 5 := by decide
theorem jzl_6 : (6 : Int64).toInt = 6 := by decide
theorem jzl_7 : (7 : Int64).toInt = 7 := by decide
theorem jzl_8 : (8 : Int64).toInt = 8 := by decide
theorem jzl_9 : (9 : Int64).toInt = 9 := by decide
theorem jzl_12 : (12 : Int64).toInt = 12 := by decide
theorem jzl_19 : (19 : Int64).toInt = 19 := by decide
theorem jzl_20 : (20 : Int64).toInt = 20 := by decide
theorem jzl_50 : (50 : Int64).toInt = 50 := by decide
theorem jzl_60 : (60 : Int64).toInt = 60 := by decide
theorem jzl_99 : (99 : Int64).toInt = 99 := by decide
theorem jzl_200 : (200 : Int64).toInt = 200 := by decide
theorem jzl_500 : (500 : Int64).toInt = 500 := by decide
theorem jzl_999 : (999 : Int64).toInt = 999 := by decide
theorem jzl_9999 : (9999 : Int64).toInt = 9999 := by decide
theorem jzl_44444444 : (44444444 : Int64).toInt = 44444444 := by decide
theorem jzl_1000 : (1000 : Int64).toInt = 1000 := by decide
theorem jzl_16 : (16 : Int64).toInt = 16 := by decide
theorem jzl_13 : (13 : Int64).toInt = 13 := by decide
theorem jzl_m1 : (-1 : Int64).toInt = -1 := by decide
theorem jzl_m9 : (-9 : Int64).toInt = -9 := by decide
theorem jzl_m200 : (-200 : Int64).toInt = -200 := by decide
theorem jmask {x a : Int32} {m : Int32} (e : x = a &&& m) (k : Nat) (hm : m.toBitVec.toNat = 2 ^ k - 1) (hk : k ≤ 30) : 0 ≤ x.toInt ∧ x.toInt ≤ m.toInt := by
  obtain ⟨j, hj, e2⟩ := pk_andE a (m := m) k hm
  have h2 : (2 : Nat) ^ k ≤ 2 ^ 30 := Nat.pow_le_pow_right (by decide) hk
  have h3 : x.toInt = (j : Int) := by rw [e, e2]; exact nI_toInt (by omega)
  have h4 : m.toInt = (2 : Int) ^ k - 1 := by
    have h5 : m = nI (2 ^ k - 1) := by
      apply Int32.toBitVec_inj.mp
      apply BitVec.eq_of_toNat_eq
      rw [hm, pk_tn (by omega)]
    rw [h5, nI_toInt (by omega)]
    have : 1 ≤ (2 : Nat) ^ k := Nat.one_le_two_pow
    rw [Int.natCast_sub this]; simp
  rw [h3, h4]
  have : ((2 : Nat) ^ k : Int) = (2 : Int) ^ k := by norm_cast
  omega
theorem jmin {x a b : Int32} {A B : Int} (e : x = if b < a then b else a) (ha : a.toInt = A) (hb : b.toInt = B) : (x.toInt = A ∧ A ≤ B) ∨ (x.toInt = B ∧ B < A) := by
  by_cases h : b < a
  · rw [if_pos h] at e; exact Or.inr ⟨by rw [e, hb], jlt h hb ha⟩
  · rw [if_neg h] at e; exact Or.inl ⟨by rw [e, ha], jnlt h hb ha⟩
theorem jmax {x a b : Int32} {A B : Int} (e : x = if a < b then b else a) (ha : a.toInt = A) (hb : b.toInt = B) : (x.toInt = A ∧ B ≤ A) ∨ (x.toInt = B ∧ A < B) := by
  by_cases h : a < b
  · rw [if_pos h] at e; exact Or.inr ⟨by rw [e, hb], jlt h ha hb⟩
  · rw [if_neg h] at e; exact Or.inl ⟨by rw [e, ha], jnlt h ha hb⟩
theorem jnatl {x : Int32} {A : Int} {n : Nat} (ha : x.toInt = A) (h1 : (n : Int) ≤ A) : n ≤ x.toNatClampNeg := by
  show n ≤ x.toInt.toNat
  omega
theorem jbw (z : Int) (h1 : -4294967296 ≤ z) (h2 : z ≤ 4294967295) : (z.bmod (2 ^ 32) = z ∧ -2147483648 ≤ z ∧ z ≤ 2147483647) ∨ (z.bmod (2 ^ 32) = z - 4294967296 ∧ 2147483647 < z) ∨ (z.bmod (2 ^ 32) = z + 4294967296 ∧ z < -2147483648) := by
  simp only [Int.bmod_def]
  omega
theorem jaddw {x a b : Int32} {A B : Int} (e : x = a + b) (ha : a.toInt = A) (hb : b.toInt = B) : (x.toInt = A + B ∧ -2147483648 ≤ A + B ∧ A + B ≤ 2147483647) ∨ (x.toInt = A + B - 4294967296 ∧ 2147483647 < A + B) ∨ (x.toInt = A + B + 4294967296 ∧ A + B < -2147483648) := by
  have h1 := jrg ha
  have h2 := jrg hb
  rw [e, Int32.toInt_add, ha, hb]; exact jbw _ (by omega) (by omega)
theorem jsubw {x a b : Int32} {A B : Int} (e : x = a - b) (ha : a.toInt = A) (hb : b.toInt = B) : (x.toInt = A - B ∧ -2147483648 ≤ A - B ∧ A - B ≤ 2147483647) ∨ (x.toInt = A - B - 4294967296 ∧ 2147483647 < A - B) ∨ (x.toInt = A - B + 4294967296 ∧ A - B < -2147483648) := by
  have h1 := jrg ha
  have h2 := jrg hb
  rw [e, Int32.toInt_sub, ha, hb]; exact jbw _ (by omega) (by omega)
/-! rows within bounds; the static rows as numbers -/
theorem jrr_up {σ : Nat → Nat → Int32} {i n j : Nat} {v : Int32} {lo hi : Int} (h : ∀ k : Nat, k < n → lo ≤ (σ i k).toInt ∧ (σ i k).toInt ≤ hi) (h1 : lo ≤ v.toInt) (h2 : v.toInt ≤ hi) : ∀ k : Nat, k < n → lo ≤ (jup σ i j v i k).toInt ∧ (jup σ i j v i k).toInt ≤ hi := by
  intro k hk
  by_cases e : k = j
  · subst e; rw [jup_s]; exact ⟨h1, h2⟩
  · rw [jup_k e]; exact h k hk
def js0 : Nat → Int32 := fun k => [240, 15, 3072, 12288, 768, 507904].getD k 0
def js1 : Nat → Int32 := fun k => [-1, 0, 0, 2, 1, 3, 0].getD k 0
def js2 : Nat → Int32 := fun k => [1, 10, 11, 2, 20, 0, 0, 0, 0, 0, 30, 0, 0, 40, 0, 0, 50, 0, 0, 51, 0, 0, 60, 0, 0, 70, 0, 0].getD k 0
theorem js_r {l : List Int32} {lo hi : Int} (h : ∀ x ∈ l, lo ≤ x.toInt ∧ x.toInt ≤ hi) (h0 : lo ≤ 0 ∧ 0 ≤ hi) (k : Nat) : lo ≤ (l.getD k 0).toInt ∧ (l.getD k 0).toInt ≤ hi := by
  by_cases hk : k < l.length
  · have e : l.getD k 0 = l[k] := by simp [List.getD, List.getElem?_eq_getElem hk]
    rw [e]; exact h _ (List.getElem_mem hk)
  · have e : l.getD k 0 = 0 := by simp [List.getD, List.getElem?_eq_none (Nat.le_of_not_lt hk)]
    rw [e]; exact h0
theorem js0_r (k : Nat) : 0 ≤ (js0 k).toInt ∧ (js0 k).toInt ≤ 507904 := js_r (by decide) (by decide) k
theorem js1_r (k : Nat) : -1 ≤ (js1 k).toInt ∧ (js1 k).toInt ≤ 3 := js_r (by decide) (by decide) k
theorem js2_r (k : Nat) : 0 ≤ (js2 k).toInt ∧ (js2 k).toInt ≤ 70 := js_r (by decide) (by decide) k
theorem jnp {σ σ' : Nat → Nat → Int32} {i k : Nat} {v : Int32} (j : Nat) (e : σ' = jup σ i k v) (h : j ≠ i) : σ' j = σ j := by rw [e, jup_n h]

theorem jnpL {τ τ' : Nat → Nat → Int64} {i k : Nat} {v : Int64} (j : Nat) (e : τ' = jupL τ i k v) (h : j ≠ i) : τ' j = τ j := by rw [e, jupL_n h]
theorem jkp {σ σ' : Nat → Nat → Int32} {i k : Nat} {v : Int32} (k' : Nat) (e : σ' = jup σ i k v) (h : k' ≠ k) : σ' i k' = σ i k' := by rw [e, jup_k h]
theorem jsp {σ σ' : Nat → Nat → Int32} {i k : Nat} {v : Int32} (e : σ' = jup σ i k v) : σ' i k = v := by rw [e]; exact jup_s
theorem jrr_fr {σ σ' : Nat → Nat → Int32} {i n : Nat} {lo hi : Int} (e : σ' i = σ i) (h : ∀ k : Nat, k < n → lo ≤ (σ i k).toInt ∧ (σ i k).toInt ≤ hi) : ∀ k : Nat, k < n → lo ≤ (σ' i k).toInt ∧ (σ' i k).toInt ≤ hi := by rw [e]; exact h
/-! long numbers; rows copied -/
theorem jladd {x a b : Int64} {A B : Int} (e : x = a + b) (ha : a.toInt = A) (hb : b.toInt = B) (h1 : -9223372036854775808 ≤ A + B) (h2 : A + B ≤ 9223372036854775807) : x.toInt = A + B := by
  rw [e, Int64.toInt_add, ha, hb]; exact jbmL h1 h2
theorem jlsub {x a b : Int64} {A B : Int} (e : x = a - b) (ha : a.toInt = A) (hb : b.toInt = B) (h1 : -9223372036854775808 ≤ A - B) (h2 : A - B ≤ 9223372036854775807) : x.toInt = A - B := by
  rw [e, Int64.toInt_sub, ha, hb]; exact jbmL h1 h2
theorem jlmul {x a b : Int64} {A B : Int} (e : x = a * b) (ha : a.toInt = A) (hb : b.toInt = B) (h1 : -9223372036854775808 ≤ A * B) (h2 : A * B ≤ 9223372036854775807) : x.toInt = A * B := by
  rw [e, Int64.toInt_mul, ha, hb]; exact jbmL h1 h2
theorem jldiv {x a b : Int64} {A B : Int} (e : x = a / b) (ha : a.toInt = A) (hb : b.toInt = B) (h0 : 0 ≤ A) (h1 : 0 < B) : x.toInt = A / B := by
  have := jrgL ha
  have h3 : 0 ≤ A / B := Int.ediv_nonneg h0 (by omega)
  have h4 : A / B ≤ A := Int.ediv_le_self B h0
  rw [e, Int64.toInt_div, ha, hb, Int.tdiv_eq_ediv_of_nonneg h0]; exact jbmL (by omega) (by omega)
theorem jtoI {y : Int32} {x : Int64} {A : Int} (e : y = x.toInt32) (h : x.toInt = A) (h1 : -2147483648 ≤ A) (h2 : A ≤ 2147483647) : y.toInt = A := by
  rw [e, Int64.toInt_toInt32, h]; exact jbm h1 h2
theorem jprod {X Y : Int64} {x y a b : Int} (hx : X.toInt = x) (hy : Y.toInt = y) (h0 : 0 ≤ x) (h1 : x ≤ a) (h2 : 0 ≤ y) (h3 : y ≤ b) : 0 ≤ x * y ∧ x * y ≤ a * y ∧ x * y ≤ b * x ∧ a * y ≤ a * b := by
  refine ⟨Int.mul_nonneg h0 h2, Int.mul_le_mul_of_nonneg_right h1 h2, ?_, Int.mul_le_mul_of_nonneg_left h3 (by omega)⟩
  rw [Int.mul_comm b x]; exact Int.mul_le_mul_of_nonneg_left h3 h0
theorem jmix {c p q : Int} (h0 : 0 ≤ c) (h1 : c ≤ 1000) (hp : 0 ≤ p) (hq : 0 ≤ q) : 0 ≤ c * p + (-c + 1000) * q ∧ (c * p + (-c + 1000) * q ≤ 1000 * p ∨ c * p + (-c + 1000) * q ≤ 1000 * q) := by
  have a1 : 0 ≤ c * p := Int.mul_nonneg h0 hp
  have a2 : 0 ≤ (-c + 1000) * q := Int.mul_nonneg (by omega) hq
  refine ⟨by omega, ?_⟩
  rcases Int.le_total p q with h | h
  · right
    have := Int.mul_le_mul_of_nonneg_left h h0
    have e : (-c + 1000) * q = 1000 * q - c * q := by rw [Int.add_mul, Int.neg_mul]; omega
    omega
  · left
    have := Int.mul_le_mul_of_nonneg_left h (show (0 : Int) ≤ -c + 1000 by omega)
    have e : (-c + 1000) * p = 1000 * p - c * p := by rw [Int.add_mul, Int.neg_mul]; omega
    omega
def jrow (σ : Nat → Nat → Int32) (i : Nat) (g : Nat → Int32) : Nat → Nat → Int32 := fun x => if x = i then g else σ x
def jrowL (τ : Nat → Nat → Int64) (i : Nat) (g : Nat → Int64) : Nat → Nat → Int64 := fun x => if x = i then g else τ x
theorem jrow_n {σ : Nat → Nat → Int32} {i : Nat} {g : Nat → Int32} : ∀ x : Nat, (x < i ∨ i < x) → jrow σ i g x = σ x := fun x h => if_neg (by omega)
theorem jrowL_n {τ : Nat → Nat → Int64} {i : Nat} {g : Nat → Int64} : ∀ x : Nat, (x < i ∨ i < x) → jrowL τ i g x = τ x := fun x h => if_neg (by omega)
theorem jrow_rr {σ : Nat → Nat → Int32} {q0 q1 n0 n1 : Nat} {lo hi : Int} {sp n : Int32} {S N : Int} {dp : Nat} (h0 : ∀ k : Nat, k < n0 → lo ≤ (σ q0 k).toInt ∧ (σ q0 k).toInt ≤ hi) (h1 : ∀ k : Nat, k < n1 → lo ≤ (σ q1 k).toInt ∧ (σ q1 k).toInt ≤ hi) (hs : sp.toInt = S) (hn : n.toInt = N) (a : 0 ≤ S) (b : 0 ≤ N) (c : S + N ≤ n0) :
    ∀ k : Nat, k < n1 → lo ≤ (jrow σ q1 (va_cpy (σ q0) (σ q1) sp.toNatClampNeg dp n.toNatClampNeg) q1 k).toInt ∧ (jrow σ q1 (va_cpy (σ q0) (σ q1) sp.toNatClampNeg dp n.toNatClampNeg) q1 k).toInt ≤ hi := by
  intro k hk
  have e1 : sp.toNatClampNeg = S.toNat := by rw [← hs]; rfl
  have e2 : n.toNatClampNeg = N.toNat := by rw [← hn]; rfl
  unfold jrow va_cpy
  rw [if_pos rfl]
  split
  · rename_i h; exact h0 _ (by omega)
  · exact h1 k hk
section CPY
variable {p : Program} {l : Launch} {e : Env} {R : Room} {s : State} {m : MethodId} {args : Array Value} {below : List Frame} {meth : Method} {c : Code} {H : Heap} {locs : List Loc} {cells slots : Nat} {Q : State → Prop}
variable {D : va_G} {cI cL : ClassId} {ad : Nat → Nat} {σ : Nat → Nat → Int32} {τ : Nat → Nat → Int64} {cc : ByteArray} {A : Nat → Prop} {own : String} {pc index : Nat} {ls : Array Slot} {rest : List Value}
theorem jneg0 {x : Int32} {X : Int} (h : x.toInt = X) (h0 : 0 ≤ X) : ¬ x < 0 := fun q => absurd (jlt q h (show (0 : Int32).toInt = 0 from rfl)) (by omega)
theorem jcpyI {q0 q1 n0 n1 : Nat} {sp dp n : Int32} {S1 D1 N1 : Int} (hexec : p.tables.exec = Jvm.exec) (hb : c.code = cc) (hml : c.maxLocals = ls.size) (hown : s.vm.findClass own = some m.cls) (hlink : (Cond.methodLink own index arraycopyName).before args s = true) (hnat : (Cond.native arraycopyName).before args s = true) (hstat : (Cond.static arraycopyName).before args s = true) (hini : (Cond.initialized "java/lang/System").before args s = true)
    (hK : jK D cI cL s) (hP : jH D cI cL ad σ τ H) (hJ : jD ad) (hA : ∀ q, jA ad q → A q) (hS : va_S A s.heap H locs)
    (he0 : (jw cI cL ad σ τ)[q0]? = some (ad q0, .inl (cI, n0, .inl (σ q0)))) (he1 : (jw cI cL ad σ τ)[q1]? = some (ad q1, .inl (cI, n1, .inl (σ q1)))) (hset : ∀ g, (jw cI cL ad σ τ).set q1 (ad q1, .inl (cI, n1, .inl g)) = jw cI cL ad (jrow σ q1 g) τ)
    (hs : sp.toInt = S1) (hd : dp.toInt = D1) (hn : n.toInt = N1) (h1 : 0 ≤ S1) (h2 : 0 ≤ D1) (h3 : 0 ≤ N1) (h4 : S1 + N1 ≤ n0) (h5 : D1 + N1 ≤ n1) (hfr : 1 ≤ R.frames) (hlo : (rest.map fun v => v.category).sum + (nativeFrameWords "java/lang/System" "arraycopy" 5 + 11) ≤ R.locals) (hdg : decode cc pc = .ok (.invokestatic index, 3))
    (kk : ∀ (σ1 : Nat → Nat → Int32) (H1 : Heap) (locs1 : List Loc), σ1 = jrow σ q1 (va_cpy (σ q0) (σ q1) sp.toNatClampNeg dp.toNatClampNeg n.toNatClampNeg) → jH D cI cL ad σ1 τ H1 → va_S A s.heap H1 locs1 → W p l e R s m args below meth c H1 locs1 cells slots Q (F0 m (pc + 3) ls rest)) : W p l e R s m args below meth c H locs cells slots Q (F0 m pc ls (.int n :: .int dp :: .ref (ad q1) :: .int sp :: .ref (ad q0) :: rest)) := by
  have e1 : sp.toNatClampNeg = S1.toNat := by rw [← hs]; rfl
  have e2 : dp.toNatClampNeg = D1.toNat := by rw [← hd]; rfl
  have e3 : n.toNatClampNeg = N1.toNat := by rw [← hn]; rfl
  refine va_copyi hexec hb hml hown hlink hnat hstat hini hK hP (hJ.D hA cI cL σ τ) hS q0 q1 0 0 he0 he1 rfl rfl rfl (jneg0 hs h1) (jneg0 hd h2) (jneg0 hn h3) (by omega) (by omega) (fun _ _ => rfl) hfr hlo hdg fun H1 locs1 hP1 _ hS1 => kk _ H1 locs1 rfl ?_ hS1
  rw [hset] at hP1
  exact hP1
theorem jcpyL {q0 q1 n0 n1 : Nat} {sp dp n : Int32} {S1 D1 N1 : Int} (hexec : p.tables.exec = Jvm.exec) (hb : c.code = cc) (hml : c.maxLocals = ls.size) (hown : s.vm.findClass own = some m.cls) (hlink : (Cond.methodLink own index arraycopyName).before args s = true) (hnat : (Cond.native arraycopyName).before args s = true) (hstat : (Cond.static arraycopyName).before args s = true) (hini : (Cond.initialized "java/lang/System").before args s = true)
    (hK : jK D cI cL s) (hP : jH D cI cL ad σ τ H) (hJ : jD ad) (hA : ∀ q, jA ad q → A q) (hS : va_S A s.heap H locs)
    (he0 : (jw cI cL ad σ τ)[q0]? = some (ad q0, .inl (cL, n0, .inr (.inl (τ q0))))) (he1 : (jw cI cL ad σ τ)[q1]? = some (ad q1, .inl (cL, n1, .inr (.inl (τ q1))))) (hset : ∀ g, (jw cI cL ad σ τ).set q1 (ad q1, .inl (cL, n1, .inr (.inl g))) = jw cI cL ad σ (jrowL τ q1 g))
    (hs : sp.toInt = S1) (hd : dp.toInt = D1) (hn : n.toInt = N1) (h1 : 0 ≤ S1) (h2 : 0 ≤ D1) (h3 : 0 ≤ N1) (h4 : S1 + N1 ≤ n0) (h5 : D1 + N1 ≤ n1) (hfr : 1 ≤ R.frames) (hlo : (rest.map fun v => v.category).sum + (nativeFrameWords "java/lang/System" "arraycopy" 5 + 11) ≤ R.locals) (hdg : decode cc pc = .ok (.invokestatic index, 3))
    (kk : ∀ (τ1 : Nat → Nat → Int64) (H1 : Heap) (locs1 : List Loc), τ1 = jrowL τ q1 (va_cpy (τ q0) (τ q1) sp.toNatClampNeg dp.toNatClampNeg n.toNatClampNeg) → jH D cI cL ad σ τ1 H1 → va_S A s.heap H1 locs1 → W p l e R s m args below meth c H1 locs1 cells slots Q (F0 m (pc + 3) ls rest)) : W p l e R s m args below meth c H locs cells slots Q (F0 m pc ls (.int n :: .int dp :: .ref (ad q1) :: .int sp :: .ref (ad q0) :: rest)) := by
  have e1 : sp.toNatClampNeg = S1.toNat := by rw [← hs]; rfl
  have e2 : dp.toNatClampNeg = D1.toNat := by rw [← hd]; rfl
  have e3 : n.toNatClampNeg = N1.toNat := by rw [← hn]; rfl
  refine va_copyl hexec hb hml hown hlink hnat hstat hini hK hP (hJ.D hA cI cL σ τ) hS q0 q1 1 1 he0 he1 rfl rfl rfl (jneg0 hs h1) (jneg0 hd h2) (jneg0 hn h3) (by omega) (by omega) (fun _ _ => rfl) hfr hlo hdg fun H1 locs1 hP1 _ hS1 => kk _ H1 locs1 rfl ?_ hS1
  rw [hset] at hP1
  exact hP1
end CPY
theorem jushr {x a y : Int32} {n : Nat} (h1 : 1 ≤ n) (h2 : (y.toUInt32 &&& Int32.toUInt32 31).toNat = n) (e : x = (a.toUInt32 >>> (y.toUInt32 &&& Int32.toUInt32 31)).toInt32) (h3 : n ≤ 31) : 0 ≤ x.toInt ∧ x.toInt ≤ (2 : Int) ^ (32 - n) - 1 := by
  have h5 : (a.toUInt32 >>> (y.toUInt32 &&& Int32.toUInt32 31)).toNat < 2 ^ (32 - n) := by
    rw [UInt32.toNat_shiftRight, h2, Nat.mod_eq_of_lt (by omega : n < 32), Nat.shiftRight_eq_div_pow]
    have := UInt32.toNat_lt a.toUInt32
    apply Nat.div_lt_of_lt_mul
    rw [← Nat.pow_add, show n + (32 - n) = 32 by omega]; exact this
  have h6 : (2 : Nat) ^ (32 - n) ≤ 2 ^ 31 := Nat.pow_le_pow_right (by decide) (by omega)
  have h7 : x.toInt = ((a.toUInt32 >>> (y.toUInt32 &&& Int32.toUInt32 31)).toNat : Int) := by
    rw [e]
    show BitVec.toInt (a.toUInt32 >>> (y.toUInt32 &&& Int32.toUInt32 31)).toBitVec = _
    rw [BitVec.toInt_eq_toNat_of_lt]
    · rfl
    · show 2 * (a.toUInt32 >>> (y.toUInt32 &&& Int32.toUInt32 31)).toNat < 2 ^ 32
      omega
  have h8 : ((2 : Nat) ^ (32 - n) : Int) = (2 : Int) ^ (32 - n) := by norm_cast
  rw [h7]; omega
theorem jdivv {a b : Int32} {A B : Int} (_ha : a.toInt = A) (_hb : b.toInt = B) (h0 : 0 ≤ A) (_h1 : 0 < B) : 0 ≤ A / B ∧ A / B ≤ A := ⟨Int.ediv_nonneg h0 (by omega), Int.ediv_le_self B h0⟩
theorem jlook {ps : List (Int × Int)} {d z : Int} (h : ∀ p ∈ ps, z ≠ p.1) : Op.lookupswitch.offset ps d z = d := by
  induction ps with
  | nil => rfl
  | cons p r ih =>
    obtain ⟨a, o⟩ := p
    show (if a = z then o else Op.lookupswitch.offset r d z) = d
    rw [if_neg (fun e => h (a, o) (List.mem_cons_self ..) e.symm)]
    exact ih (fun q hq => h q (List.mem_cons_of_mem _ hq))
section CALL
variable {p : Program} {l : Launch} {e : Env} {R : Room} {s : State} {m : MethodId} {args : Array Value} {below : List Frame} {meth : Method} {c : Code} {H : Heap} {locs : List Loc} {cells slots : Nat} {Q : State → Prop}
variable {D : va_G} {cI cL : ClassId} {ad zz : Nat → Nat} {σ : Nat → Nat → Int32} {τ : Nat → Nat → Int64} {y : MethodName} {cc bytes : ByteArray} {nL maxL index n : Nat} {ret : Option FieldType} {rm : Room} {A : Nat → Prop} {own : String}
variable {b i ci N : Nat} {T : u_T} {fs As rest st0 : List Value} {pc : Nat} {ls : Array Slot}
theorem jcallSv {post : (Nat → Nat → Int32) → (Nat → Nat → Int64) → Prop} (hC : CallFix p m c cc nL s args wsL_law own) (hK : jK D cI cL s) (hP : jH D cI cL ad σ τ H) (hA : ∀ q, jA ad q → A q) (hS : va_S A s.heap H locs) (hZ : jZ zz A s s.heap) (hM : jMv l y bytes maxL ret rm D cI cL ad zz As σ τ post) (hw : jcS own index y bytes maxL ret n) (hR : rm.frames + 1 ≤ R.frames ∧ 8 + (maxL + 11) + rm.locals ≤ R.locals) (hrc : rm.cells = 0) (hrs : rm.slots = 0) (hn : As.length = n) (hsize : ls.size = nL) (hst : st0 = As.reverse ++ rest) (hW : (rest.map fun v => v.category).sum ≤ 8) (hdg : decode cc pc = .ok (.invokestatic index, 3)) (hcs : cells ≤ R.cells ∧ slots ≤ R.slots)
    (kk : ∀ (σ1 : Nat → Nat → Int32) (τ1 : Nat → Nat → Int64) (H1 : Heap) (locs1 : List Loc), post σ1 τ1 → jH D cI cL ad σ1 τ1 H1 → va_S A s.heap H1 locs1 → W p l e R s m args below meth c H1 locs1 cells slots Q (F0 m (pc + 3) ls rest)) : W p l e R s m args below meth c H locs cells slots Q (F0 m pc ls st0) :=
  jrunv (va_runS (As := As) (rest := rest) hC hM ⟨hw.1.B hC.2.2.2.2 hR hrc hrs, hC.2.2.2.2 _ hw.2⟩ ⟨jblind, fun U hU hW => ⟨rfl, by rw [hU]; exact hP, va_K.moved hW.alike hK, jZcall hZ hA hS hU hW⟩⟩ rfl hn hsize hst (lv_room hW) hdg hcs) hA hS kk
theorem jcallSl {post : Int64 → (Nat → Nat → Int32) → (Nat → Nat → Int64) → Prop} (hC : CallFix p m c cc nL s args wsL_law own) (hK : jK D cI cL s) (hP : jH D cI cL ad σ τ H) (hA : ∀ q, jA ad q → A q) (hS : va_S A s.heap H locs) (hZ : jZ zz A s s.heap) (hM : jMl l y bytes maxL ret rm D cI cL ad zz As σ τ post) (hw : jcS own index y bytes maxL ret n) (hR : rm.frames + 1 ≤ R.frames ∧ 8 + (maxL + 11) + rm.locals ≤ R.locals) (hrc : rm.cells = 0) (hrs : rm.slots = 0) (hn : As.length = n) (hsize : ls.size = nL) (hst : st0 = As.reverse ++ rest) (hW : (rest.map fun v => v.category).sum ≤ 8) (hdg : decode cc pc = .ok (.invokestatic index, 3)) (hcs : cells ≤ R.cells ∧ slots ≤ R.slots)
    (kk : ∀ (r : Int64) (σ1 : Nat → Nat → Int32) (τ1 : Nat → Nat → Int64) (H1 : Heap) (locs1 : List Loc), post r σ1 τ1 → jH D cI cL ad σ1 τ1 H1 → va_S A s.heap H1 locs1 → W p l e R s m args below meth c H1 locs1 cells slots Q (F0 m (pc + 3) ls (.long r :: rest))) : W p l e R s m args below meth c H locs cells slots Q (F0 m pc ls st0) :=
  jrunl (va_runS (As := As) (rest := rest) hC hM ⟨hw.1.B hC.2.2.2.2 hR hrc hrs, hC.2.2.2.2 _ hw.2⟩ ⟨jblind, fun U hU hW => ⟨rfl, by rw [hU]; exact hP, va_K.moved hW.alike hK, jZcall hZ hA hS hU hW⟩⟩ rfl hn hsize hst (lv_room hW) hdg hcs) hA hS kk
end CALL
theorem jremv {a b : Int32} {A B : Int} (_ha : a.toInt = A) (_hb : b.toInt = B) (h0 : 0 ≤ A) (h1 : 0 < B) : 0 ≤ A % B ∧ A % B < B := ⟨Int.emod_nonneg A (by omega), Int.emod_lt_of_pos A h1⟩
/-! the reference: who may bowl; going on and back; the book; the kept means -/
def jleft (σ : Nat → Nat → Int32) (b : Int32) : Int32 := (if b = σ 55 30 then 0 else if b = σ 55 31 then σ 56 (32 + b).toNatClampNeg + 1 else σ 56 (32 + b).toNatClampNeg) - σ 69 b.toNatClampNeg
def jmb (σ : Nat → Nat → Int32) (b : Int32) : Int32 := if b = σ 55 27 then 0 else if jleft σ b ≤ 0 then 0 else 1
theorem jmb_fr {σ σ' : Nat → Nat → Int32} (h27 : σ' 55 27 = σ 55 27) (h30 : σ' 55 30 = σ 55 30) (h31 : σ' 55 31 = σ 55 31) (h56 : σ' 56 = σ 56) (h69 : σ' 69 = σ 69) (b : Int32) : jmb σ' b = jmb σ b := by
  unfold jmb jleft; rw [h27, h30, h31, h56, h69]
def jupd (g : Nat → Int32) (n : Nat) (v : Int32) : Nat → Int32 := fun k => if k = n then v else g k
theorem jup_row {σ : Nat → Nat → Int32} {i n : Nat} {v : Int32} : jup σ i n v i = jupd (σ i) n v := by
  funext k
  by_cases h : k = n
  · rw [h, jup_s]; unfold jupd; rw [if_pos rfl]
  · rw [jup_k h]; unfold jupd; rw [if_neg h]
theorem jback69 {g1 g0 g2 g3 : Nat → Int32} {n : Nat} (h1 : g1 = jupd g0 n (g0 n + 1)) (h2 : g2 = g1) (h3 : g3 = jupd g2 n (g2 n - 1)) : g3 = g0 := by
  subst h2 h1 h3
  funext k
  unfold jupd
  by_cases h : k = n
  · rw [if_pos h, if_pos rfl, Int32.add_sub_cancel, h]
  · rw [if_neg h, if_neg h]
theorem jdig {nb L s0 s1 s2 s3 L' t0 t1 t2 t3 w : Int} (a0 : 0 ≤ s0 ∧ s0 ≤ 3) (a1 : 0 ≤ s1 ∧ s1 ≤ 3) (a2 : 0 ≤ s2 ∧ s2 ≤ 3) (a3 : 0 ≤ s3 ∧ s3 ≤ 3) (b0 : 0 ≤ t0 ∧ t0 ≤ 3) (b1 : 0 ≤ t1 ∧ t1 ≤ 3) (b2 : 0 ≤ t2 ∧ t2 ≤ 3) (b3 : 0 ≤ t3 ∧ t3 ≤ 3)
    (h : (nb = 0 ∧ w = L + 1) ∨ (nb = 1 ∧ w = 4 * L + s0 + 4) ∨ (nb = 2 ∧ w = 16 * L + 4 * s0 + s1 + 16) ∨ (nb = 3 ∧ w = 64 * L + 16 * s0 + 4 * s1 + s2 + 64) ∨ (nb = 4 ∧ w = 256 * L + 64 * s0 + 16 * s1 + 4 * s2 + s3 + 256))
    (h' : (nb = 0 ∧ w = L' + 1) ∨ (nb = 1 ∧ w = 4 * L' + t0 + 4) ∨ (nb = 2 ∧ w = 16 * L' + 4 * t0 + t1 + 16) ∨ (nb = 3 ∧ w = 64 * L' + 16 * t0 + 4 * t1 + t2 + 64) ∨ (nb = 4 ∧ w = 256 * L' + 64 * t0 + 16 * t1 + 4 * t2 + t3 + 256)) :
    L' = L ∧ (1 ≤ nb → t0 = s0) ∧ (2 ≤ nb → t1 = s1) ∧ (3 ≤ nb → t2 = s2) ∧ (4 ≤ nb → t3 = s3) := by
  rcases h with h | h | h | h | h <;> rcases h' with h' | h' | h' | h' | h' <;> first | (exfalso; omega) | (refine ⟨?_, ?_, ?_, ?_, ?_⟩ <;> omega)
theorem jback68 {g0 g1 g2 g3 : Nat → Int32} {nb : Int} (hn : 0 ≤ nb ∧ nb ≤ 4) (k1 : ∀ k : Nat, nb ≤ k → g1 k = g0 k) (h2 : g2 = g1) (k3 : ∀ k : Nat, nb ≤ k → g3 k = g2 k) (h : (1 ≤ nb → (g3 0).toInt = (g0 0).toInt) ∧ (2 ≤ nb → (g3 1).toInt = (g0 1).toInt) ∧ (3 ≤ nb → (g3 2).toInt = (g0 2).toInt) ∧ (4 ≤ nb → (g3 3).toInt = (g0 3).toInt)) : g3 = g0 := by
  subst h2
  funext k
  rcases Int.lt_or_le k nb with hk | hk
  · obtain ⟨i0, i1, i2, i3⟩ := h
    have h4 : k = 0 ∨ k = 1 ∨ k = 2 ∨ k = 3 := by omega
    rcases h4 with e | e | e | e <;> subst e <;> apply Int32.toInt_inj.mp
    · exact i0 (by omega)
    · exact i1 (by omega)
    · exact i2 (by omega)
    · exact i3 (by omega)
  · rw [k3 k hk, k1 k hk]
def jcnt (g : Nat → Int32) : Nat → Nat
  | 0 => 0
  | n + 1 => jcnt g n + (if g n = 1 then 1 else 0)
theorem jcnt_one {g : Nat → Int32} {K : Int} {z : Int32} (h0 : 0 ≤ K) (e : z = g K.toNat) (h : z = 1) : (jcnt g (K + 1).toNat : Int) = (jcnt g K.toNat : Int) + 1 := by
  have e1 : (K + 1).toNat = K.toNat + 1 := by omega
  rw [e1]; show ((jcnt g K.toNat + (if g K.toNat = 1 then 1 else 0) : Nat) : Int) = _
  rw [if_pos (by rw [← e, h])]; rfl
theorem jcnt_non {g : Nat → Int32} {K : Int} {z : Int32} (h0 : 0 ≤ K) (e : z = g K.toNat) (h : ¬ z = 1) : (jcnt g (K + 1).toNat : Int) = (jcnt g K.toNat : Int) := by
  have e1 : (K + 1).toNat = K.toNat + 1 := by omega
  rw [e1]; show ((jcnt g K.toNat + (if g K.toNat = 1 then 1 else 0) : Nat) : Int) = _
  rw [if_neg (by rw [← e]; exact h)]; rfl
theorem jcnt_le (g : Nat → Int32) : ∀ n : Nat, jcnt g n ≤ n
  | 0 => Nat.le_refl 0
  | n + 1 => by
    have := jcnt_le g n
    show jcnt g n + (if g n = 1 then 1 else 0) ≤ n + 1
    split <;> omega
theorem jcnt_up {g : Nat → Int32} {n : Nat} {v : Int32} : ∀ i : Nat, i ≤ n → jcnt (jupd g n v) i = jcnt g i
  | 0, _ => rfl
  | i + 1, h => by
    show jcnt (jupd g n v) i + (if jupd g n v i = 1 then 1 else 0) = jcnt g i + (if g i = 1 then 1 else 0)
    rw [jcnt_up i (by omega)]
    unfold jupd; rw [if_neg (by omega : ¬ i = n)]
/-- the book: fewer got out ahead of each of its overs than there are in the order -/
def jBook (σ : Nat → Nat → Int32) : Prop := ∀ i : Nat, (i : Int) < (σ 55 47).toInt → (jcnt (σ 81) i : Int) < (σ 55 10).toInt
theorem jBook.fr {σ σ' : Nat → Nat → Int32} (h47 : σ' 55 47 = σ 55 47) (h10 : σ' 55 10 = σ 55 10) (h81 : σ' 81 = σ 81) (h : jBook σ) : jBook σ' := by
  unfold jBook; rw [h47, h10, h81]; exact h
theorem jBook.nil {σ : Nat → Nat → Int32} (h : (σ 55 47).toInt ≤ 0) : jBook σ := fun i hi => absurd hi (by omega)
theorem jBook.le {σ : Nat → Nat → Int32} {B : Int} (h : jBook σ) (hB : (σ 55 47).toInt = B) (h0 : 0 ≤ B) (h1 : 1 ≤ (σ 55 10).toInt) : (jcnt (σ 81) B.toNat : Int) ≤ (σ 55 10).toInt := by
  rcases Int.lt_or_le 0 B with h2 | h2
  · have e : B.toNat = (B.toNat - 1) + 1 := by omega
    have h3 := h (B.toNat - 1) (by omega)
    rw [e]
    show ((jcnt (σ 81) (B.toNat - 1) + (if (σ 81) (B.toNat - 1) = 1 then 1 else 0) : Nat) : Int) ≤ _
    split <;> omega
  · have e : B.toNat = 0 := by omega
    rw [e]; show (0 : Int) ≤ _; omega
theorem jBook.on {σ σ' : Nat → Nat → Int32} {B : Int} {v : Int32} (h : jBook σ) (hB : (σ 55 47).toInt = B) (h0 : 0 ≤ B) (h47 : (σ' 55 47).toInt = B + 1) (h10 : σ' 55 10 = σ 55 10) (h81 : σ' 81 = jupd (σ 81) B.toNat v) (hl : (jcnt (σ 81) B.toNat : Int) < (σ 55 10).toInt) : jBook σ' := by
  intro i hi
  rw [h81, h10, jcnt_up i (by omega)]
  by_cases e : i = B.toNat
  · rw [e]; exact hl
  · exact h i (by omega)
/-- what is kept of the best: its mean is no more than the overs that were left would bear -/
def jKept (σ : Nat → Nat → Int32) : Prop := ∀ k : Nat, k < 65536 → (0 ≤ (σ 76 k).toInt ∧ (σ 76 k).toInt ≤ 1023000 * (12 - (σ 75 k).toInt / 16)) ∧ 0 ≤ (σ 77 k).toInt ∧ (σ 77 k).toInt ≤ 3
theorem jKept.fr {σ σ' : Nat → Nat → Int32} (h75 : σ' 75 = σ 75) (h76 : σ' 76 = σ 76) (h77 : σ' 77 = σ 77) (h : jKept σ) : jKept σ' := by
  unfold jKept; rw [h75, h76, h77]; exact h
theorem jKept.on {σ σ' : Nat → Nat → Int32} {n : Nat} {o m w : Int32} (h : jKept σ) (h75 : σ' 75 = jupd (σ 75) n o) (h76 : σ' 76 = jupd (σ 76) n m) (h77 : σ' 77 = jupd (σ 77) n w) (hm : 0 ≤ m.toInt) (hm2 : m.toInt ≤ 1023000 * (12 - o.toInt / 16)) (hw : 0 ≤ w.toInt) (hw2 : w.toInt ≤ 3) : jKept σ' := by
  intro k hk
  rw [h75, h76, h77]
  unfold jupd
  by_cases e : k = n
  · rw [if_pos e, if_pos e, if_pos e]; exact ⟨⟨hm, hm2⟩, hw, hw2⟩
  · rw [if_neg e, if_neg e, if_neg e]; exact h k hk
theorem jBook.dis {σ : Nat → Nat → Int32} {N : Int} (h : jBook σ) (h0 : 0 ≤ N) (h1 : N ≤ (σ 55 47).toInt) (hm : 1 ≤ (σ 55 10).toInt) : (N < (σ 55 47).toInt ∧ (jcnt (σ 81) N.toNat : Int) < (σ 55 10).toInt) ∨ (N = (σ 55 47).toInt ∧ (jcnt (σ 81) N.toNat : Int) ≤ (σ 55 10).toInt) := by
  rcases Int.lt_or_le N (σ 55 47).toInt with h2 | h2
  · exact Or.inl ⟨h2, h N.toNat (by omega)⟩
  · have e : N = (σ 55 47).toInt := by omega
    exact Or.inr ⟨e, by subst e; exact h.le rfl h0 hm⟩
theorem jcnt_r (g : Nat → Int32) {K : Int} (h : 0 ≤ K) : 0 ≤ (jcnt g K.toNat : Int) ∧ (jcnt g K.toNat : Int) ≤ K := by
  have := jcnt_le g K.toNat
  omega
theorem jwas {nb L s0 s1 s2 s3 w : Int} (hL : -1 ≤ L ∧ L ≤ 3) (a0 : 0 ≤ s0 ∧ s0 ≤ 3) (a1 : 0 ≤ s1 ∧ s1 ≤ 3) (a2 : 0 ≤ s2 ∧ s2 ≤ 3) (a3 : 0 ≤ s3 ∧ s3 ≤ 3)
    (h : (nb = 0 ∧ w = L + 1) ∨ (nb = 1 ∧ w = 4 * L + s0 + 4) ∨ (nb = 2 ∧ w = 16 * L + 4 * s0 + s1 + 16) ∨ (nb = 3 ∧ w = 64 * L + 16 * s0 + 4 * s1 + s2 + 64) ∨ (nb = 4 ∧ w = 256 * L + 64 * s0 + 16 * s1 + 4 * s2 + s3 + 256)) :
    (nb = 0 ∧ 0 ≤ w ∧ w < 5) ∨ (nb = 1 ∧ 0 ≤ w ∧ w < 20) ∨ (nb = 2 ∧ 0 ≤ w ∧ w < 80) ∨ (nb = 3 ∧ 0 ≤ w ∧ w < 320) ∨ (nb = 4 ∧ 0 ≤ w ∧ w < 1280) := by
  rcases h with h | h | h | h | h
  · exact Or.inl (by omega)
  · exact Or.inr (Or.inl (by omega))
  · exact Or.inr (Or.inr (Or.inl (by omega)))
  · exact Or.inr (Or.inr (Or.inr (Or.inl (by omega))))
  · exact Or.inr (Or.inr (Or.inr (Or.inr (by omega))))
def jDig : Nat → Int → Prop
  | 0, _ => True
  | n + 1, r => r ≤ 0 ∨ (1 ≤ r % 10 ∧ r % 10 ≤ 4 ∧ jDig n (r / 10))
def jRow (A : Int) : Prop := 0 ≤ A ∧ A ≤ 99999999 ∧ jDig 8 A
def jDn : Nat → Int → Prop
  | 0, r => r = 0
  | n + 1, r => 1 ≤ r % 10 ∧ r % 10 ≤ 4 ∧ jDn n (r / 10)
theorem jDn_eq {n m : Nat} {r : Int} (h : jDn n r) (e : n = m) : jDn m r := e ▸ h
theorem jDn_eq2 {n m : Nat} {r s : Int} (h : jDn n r) (e : n = m) (q : r = s) : jDn m s := e ▸ q ▸ h
theorem jDn_step {i r : Int} (h0 : 0 ≤ i) (h : jDn (i + 1).toNat r) : 1 ≤ r % 10 ∧ r % 10 ≤ 4 ∧ jDn i.toNat (r / 10) := by
  have e : (i + 1).toNat = i.toNat + 1 := by omega
  rw [e] at h; exact h

theorem jnc {x : Int32} {A : Int} (h : x.toInt = A) : x.toNatClampNeg = A.toNat := by rw [← h]; rfl
def jShi (i : Nat) (f g : Nat → Int32) : Prop := (∀ k : Nat, k + 1 < i → g k = f (k + 1)) ∧ (∀ k : Nat, i ≤ k + 1 → g k = f k)
def jSh (f g : Nat → Int32) : Prop := ∀ k : Nat, k < 39 → g k = f (k + 1)
theorem jShi.first {X : Int} {f : Nat → Int32} (h : X ≤ 1) : jShi X.toNat f f := ⟨fun k hk => absurd hk (by omega), fun _ _ => rfl⟩
theorem jShi.step {X X' : Int} {f g g' : Nat → Int32} (h : jShi X.toNat f g) (e : g' = jupd g (X - 1).toNat (g X.toNat)) (h1 : 1 ≤ X) (e' : X' = X + 1) : jShi X'.toNat f g' := by
  obtain ⟨a, b⟩ := h
  subst e e'
  have e1 : (X - 1).toNat + 1 = X.toNat := by omega
  constructor
  · intro k hk
    unfold jupd
    by_cases hq : k = (X - 1).toNat
    · rw [if_pos hq, b _ (by omega), hq, e1]
    · rw [if_neg hq]; exact a k (by omega)
  · intro k hk
    unfold jupd
    rw [if_neg (by omega)]; exact b k (by omega)
theorem jShi.fin {X : Int} {f g : Nat → Int32} (h : jShi X.toNat f g) (h1 : 40 ≤ X) : jSh f g := fun k hk => h.1 k (by omega)
/-- a number of place q becomes v, and the log says so -/
def jChg (q : Int) (v r : Int32) (t t' p p' b b' a a' : Nat → Int32) (d d' n n' : Int) : Prop :=
  r = t q.toNat ∧ ((r = v ∧ t' = t ∧ p' = p ∧ b' = b ∧ a' = a ∧ d' = d ∧ n' = n) ∨
    (r ≠ v ∧ n' = d' ∧ t' = jupd t q.toNat v ∧ ∃ (p1 b1 a1 : Nat → Int32) (z : Int32), z.toInt = q ∧
      ((d < 40 ∧ d' = d + 1 ∧ p1 = p ∧ b1 = b ∧ a1 = a) ∨ (d = 40 ∧ d' = 40 ∧ jSh p p1 ∧ jSh b b1 ∧ jSh a a1)) ∧
      p' = jupd p1 (d' - 1).toNat z ∧ b' = jupd b1 (d' - 1).toNat r ∧ a' = jupd a1 (d' - 1).toNat v))
/-- numbers and logs of class and reference are the same, as far as they are seen -/
def jNumP (t m p p2 b b2 a a2 : Nat → Int32) (B n : Int) : Prop :=
  (∀ k : Nat, k < 68 → ((k : Int) < 4 * B ∨ 16 ≤ k) → t k = m k) ∧ (∀ k : Nat, k < 16 → 4 * B ≤ (k : Int) → m k = 100) ∧
  (∀ k : Nat, (k : Int) < n → (p k = p2 k ∧ b k = b2 k ∧ a k = a2 k) ∧ (0 ≤ (p2 k).toInt ∧ (p2 k).toInt < 68) ∧ ((p2 k).toInt < 4 * B ∨ 16 ≤ (p2 k).toInt))
def jJn (B : Int) (v : Int32) (t t' : Nat → Int32) : Prop := t' = jupd (jupd (jupd (jupd (jupd t (32 + B).toNat v) (4 * B).toNat 100) (4 * B + 1).toNat 100) (4 * B + 2).toNat 100) (4 * B + 3).toNat 100
theorem jNumP.bowler {t m p p2 b b2 a a2 t' m' : Nat → Int32} {B B' n : Int} {v : Int32} (h : jNumP t m p p2 b b2 a a2 B n) (j : jJn B v t t') (e : m' = jupd m (32 + B).toNat v) (h0 : 0 ≤ B) (h1 : B < 4) (hB : B' = B + 1) : jNumP t' m' p p2 b b2 a a2 B' n := by
  obtain ⟨x, y, z⟩ := h
  unfold jJn at j
  subst j e hB
  refine ⟨fun k hk hq => ?_, fun k hk hq => ?_, fun k hk => ?_⟩
  · unfold jupd
    by_cases e0 : k = (32 + B).toNat
    · rw [if_neg (by omega), if_neg (by omega), if_neg (by omega), if_neg (by omega), if_pos e0, if_pos e0]
    · rw [if_neg e0, if_neg e0]
      by_cases e3 : k = (4 * B + 3).toNat
      · rw [if_pos e3]; exact (y k (by omega) (by omega)).symm
      rw [if_neg e3]
      by_cases e2 : k = (4 * B + 2).toNat
      · rw [if_pos e2]; exact (y k (by omega) (by omega)).symm
      rw [if_neg e2]
      by_cases e1 : k = (4 * B + 1).toNat
      · rw [if_pos e1]; exact (y k (by omega) (by omega)).symm
      rw [if_neg e1]
      by_cases e4 : k = (4 * B).toNat
      · rw [if_pos e4]; exact (y k (by omega) (by omega)).symm
      rw [if_neg e4]
      exact x k hk (by omega)
  · unfold jupd; rw [if_neg (by omega)]; exact y k hk (by omega)
  · obtain ⟨c, d, e⟩ := z k hk; exact ⟨c, d, by omega⟩
theorem jNumP.put {t m p p2 b b2 a a2 t' m' : Nat → Int32} {B n q : Int} {v w : Int32} (h : jNumP t m p p2 b b2 a a2 B n) (e1 : t' = jupd t q.toNat v) (e2 : m' = jupd m q.toNat w) (ev : v = w) (h0 : 0 ≤ q) (h1 : q < 4 * B ∨ 16 ≤ q) : jNumP t' m' p p2 b b2 a a2 B n := by
  obtain ⟨x, y, z⟩ := h
  subst e1 e2 ev
  refine ⟨fun k hk hq => ?_, fun k hk hq => ?_, z⟩
  · unfold jupd
    by_cases e : k = q.toNat
    · rw [if_pos e, if_pos e]
    · rw [if_neg e, if_neg e]; exact x k hk hq
  · unfold jupd; rw [if_neg (by omega)]; exact y k hk hq
theorem jNumP.back {t m p p2 b b2 a a2 t' m' : Nat → Int32} {B n d : Int} (h : jNumP t m p p2 b b2 a a2 B n) (h0 : 0 ≤ d) (h1 : d < n) (e1 : t' = jupd t (p d.toNat).toInt.toNat (b d.toNat)) (e2 : m' = jupd m (p2 d.toNat).toInt.toNat (b2 d.toNat)) : jNumP t' m' p p2 b b2 a a2 B n := by
  obtain ⟨⟨c1, c2, c3⟩, c4, c5⟩ := h.2.2 d.toNat (by omega)
  rw [c1, c2] at e1
  exact h.put e1 e2 rfl c4.1 c5
theorem jNumP.forth {t m p p2 b b2 a a2 t' m' : Nat → Int32} {B n d : Int} (h : jNumP t m p p2 b b2 a a2 B n) (h0 : 0 ≤ d) (h1 : d < n) (e1 : t' = jupd t (p d.toNat).toInt.toNat (a d.toNat)) (e2 : m' = jupd m (p2 d.toNat).toInt.toNat (a2 d.toNat)) : jNumP t' m' p p2 b b2 a a2 B n := by
  obtain ⟨⟨c1, c2, c3⟩, c4, c5⟩ := h.2.2 d.toNat (by omega)
  rw [c1, c3] at e1
  exact h.put e1 e2 rfl c4.1 c5
theorem jNumP.res {t m p p2 b b2 a a2 t' m' p' p2' b' b2' a' a2' : Nat → Int32} {B n d d' n' d2 d2' n2 n2' q q2 : Int} {v r r2 : Int32} (h : jNumP t m p p2 b b2 a a2 B n2) (h0 : 0 ≤ q ∧ q < 68) (h1 : q < 4 * B ∨ 16 ≤ q)
    (c1 : jChg q v r t t' p p' b b' a a' d d' n n') (c2 : jChg q2 v r2 m m' p2 p2' b2 b2' a2 a2' d2 d2' n2 n2') (eq : q = q2) : r = r2 := by
  rw [c1.1, c2.1, ← eq]; exact h.1 _ (by omega) (by omega)
theorem jNumP.chg {t m p p2 b b2 a a2 t' m' p' p2' b' b2' a' a2' : Nat → Int32} {B n d d' n' d2 d2' n2 n2' q q2 : Int} {v r r2 : Int32} (h : jNumP t m p p2 b b2 a a2 B n2) (h0 : 0 ≤ q ∧ q < 68) (h1 : q < 4 * B ∨ 16 ≤ q)
    (c1 : jChg q v r t t' p p' b b' a a' d d' n n') (c2 : jChg q2 v r2 m m' p2 p2' b2 b2' a2 a2' d2 d2' n2 n2') (eq : q = q2) (ed : d = d2) (en : n = n2) (hd : 0 ≤ d ∧ d ≤ n) : jNumP t' m' p' p2' b' b2' a' a2' B n2' ∧ d' = d2' ∧ n' = n2' := by
  have er := h.res h0 h1 c1 c2 eq
  subst eq ed en er
  obtain ⟨_, c1⟩ := c1
  obtain ⟨_, c2⟩ := c2
  rcases c1 with ⟨g1, e1, e2, e3, e4, e5, e6⟩ | ⟨g1, e1, e2, p1, b1, a1, z, e3, e4, e5, e6, e7⟩
  · rcases c2 with ⟨_, f1, f2, f3, f4, f5, f6⟩ | ⟨g2, _⟩
    · subst e1 e2 e3 e4 e5 e6 f1 f2 f3 f4 f5 f6; exact ⟨h, rfl, rfl⟩
    · exact absurd g1 g2
  · rcases c2 with ⟨g2, _⟩ | ⟨_, f1, f2, p3, b3, a3, z2, f3, f4, f5, f6, f7⟩
    · exact absurd g2 g1
    have ez : z = z2 := Int32.toInt_inj.mp (by omega)
    have ed : d' = d2' := by omega
    have hd' : 1 ≤ d' := by omega
    have ee := h.put e2 f2 rfl h0.1 h1
    refine ⟨⟨ee.1, ee.2.1, fun k hk => ?_⟩, ed, by omega⟩
    rw [e5, e6, e7, f5, f6, f7, ← ed, ← ez]
    unfold jupd
    by_cases e : k = (d' - 1).toNat
    · rw [if_pos e, if_pos e, if_pos e, if_pos e, if_pos e, if_pos e]; exact ⟨⟨rfl, rfl, rfl⟩, by omega, by omega⟩
    · rw [if_neg e, if_neg e, if_neg e, if_neg e, if_neg e, if_neg e]
      rcases e4 with ⟨x1, x2, x3, x4, x5⟩ | ⟨x1, x2, x3, x4, x5⟩
      · rcases f4 with ⟨y1, y2, y3, y4, y5⟩ | ⟨y1, _⟩
        · subst x3 x4 x5 y3 y4 y5; exact h.2.2 k (by omega)
        · exact absurd x1 (by omega)
      · rcases f4 with ⟨y1, _⟩ | ⟨y1, y2, y3, y4, y5⟩
        · exact absurd y1 (by omega)
        · have hk9 : k < 39 := by omega
          rw [x3 k hk9, x4 k hk9, x5 k hk9, y3 k hk9, y4 k hk9, y5 k hk9]; exact h.2.2 (k + 1) (by omega)
def jEok (bs w v B : Int) : Prop := 0 ≤ bs ∧ bs / 10 < B ∧ ((w = 0 ∧ bs % 10 ≤ 3 ∧ 0 ≤ v ∧ v ≤ 500) ∨ (w = 1 ∧ bs % 10 ≤ 3 ∧ -9 ≤ v ∧ v ≤ 9) ∨ (w = 2 ∧ 0 ≤ v ∧ v ≤ 8))
def jEpl (bs w q : Int) : Prop := (w = 0 ∧ q = 4 * (bs / 10) + bs % 10) ∨ (w = 1 ∧ q = 16 + 4 * (bs / 10) + bs % 10) ∨ (w = 2 ∧ q = 32 + bs / 10)
def jFok (fs w v B : Int) : Prop := 0 ≤ fs ∧ fs / 10 < 4 ∧ fs % 10 ≤ 3 ∧ ((w = 0 ∧ -200 ≤ v ∧ v ≤ 200) ∨ (w = 1 ∧ -9 ≤ v ∧ v ≤ 9))
def jFpl (fs w q : Int) : Prop := (w = 0 ∧ q = 36 + 4 * (fs / 10) + fs % 10) ∨ (w = 1 ∧ q = 52 + 4 * (fs / 10) + fs % 10)
theorem jEdge_pl {bs w v B q q2 : Int} (h0 : B ≤ 4) (h : jEok bs w v B) (h1 : jEpl bs w q) (h2 : jEpl bs w q2) : (0 ≤ q ∧ q < 68) ∧ (q < 4 * B ∨ 16 ≤ q) ∧ q = q2 := by
  unfold jEok jEpl at *; omega
theorem jField_pl {bs w v B q q2 : Int} (h0 : B ≤ 4) (h : jFok bs w v B) (h1 : jFpl bs w q) (h2 : jFpl bs w q2) : (0 ≤ q ∧ q < 68) ∧ (q < 4 * B ∨ 16 ≤ q) ∧ q = q2 := by
  unfold jFok jFpl at *; omega
theorem jbq {x y : Int32} (h : x.toBitVec = y.toBitVec) : x = y := Int32.toBitVec_inj.mp h
def jBc (v i : Int32) : Int32 := (v.toUInt32 >>> (Int32.toUInt32 (8 * i) &&& Int32.toUInt32 31)).toInt32 &&& 255
def jBr (v i : Int32) : Int32 := (v >>> ((8 * i) &&& 31)) &&& 255
theorem jb255 (i : Nat) (h : 8 ≤ i) : (255#32).getLsbD i = false := by
  by_cases h2 : i < 32
  · have : i = 8 ∨ i = 9 ∨ i = 10 ∨ i = 11 ∨ i = 12 ∨ i = 13 ∨ i = 14 ∨ i = 15 ∨ i = 16 ∨ i = 17 ∨ i = 18 ∨ i = 19 ∨ i = 20 ∨ i = 21 ∨ i = 22 ∨ i = 23 ∨ i = 24 ∨ i = 25 ∨ i = 26 ∨ i = 27 ∨ i = 28 ∨ i = 29 ∨ i = 30 ∨ i = 31 := by omega
    rcases this with rfl | rfl | rfl | rfl | rfl | rfl | rfl | rfl | rfl | rfl | rfl | rfl | rfl | rfl | rfl | rfl | rfl | rfl | rfl | rfl | rfl | rfl | rfl | rfl <;> decide
  · exact BitVec.getLsbD_of_ge _ _ (by omega)
theorem jbvq (w : BitVec 32) (n : Nat) (hn : n ≤ 24) : (w >>> n) &&& 255#32 = (w.sshiftRight n) &&& 255#32 := by
  apply BitVec.eq_of_getLsbD_eq
  intro i hi
  rw [BitVec.getLsbD_and, BitVec.getLsbD_and]
  by_cases h8 : 8 ≤ i
  · rw [jb255 i h8, Bool.and_false, Bool.and_false]
  · rw [BitVec.getLsbD_ushiftRight, BitVec.getLsbD_sshiftRight]
    have h1 : ¬ 32 ≤ i := by omega
    have h2 : n + i < 32 := by omega
    simp [h1, h2]
theorem jB_eq (v : Int32) : ∀ k : Nat, k < 4 → jBc v (Int32.ofNat k) = jBr v (Int32.ofNat k) := by
  intro k hk
  have h9 : k = 0 ∨ k = 1 ∨ k = 2 ∨ k = 3 := by omega
  rcases h9 with rfl | rfl | rfl | rfl
  · exact jbq (jbvq v.toBitVec 0 (by decide))
  · exact jbq (jbvq v.toBitVec 8 (by decide))
  · exact jbq (jbvq v.toBitVec 16 (by decide))
  · exact jbq (jbvq v.toBitVec 24 (by decide))

theorem jofn {x : Int32} (h0 : 0 ≤ x.toInt) (h1 : x.toInt ≤ 1000) : x = Int32.ofNat x.toInt.toNat := Int32.toInt_inj.mp (by rw [show (Int32.ofNat x.toInt.toNat).toInt = ((x.toInt.toNat : Nat) : Int) from nI_toInt (by omega)]; omega)
theorem jix {f : Nat → Int32} {x : Int32} {A : Int} (h : x.toInt = A) : (f x.toNatClampNeg).toInt = (f A.toNat).toInt := by rw [jnc h]
/-- what is fed -/
def jFd (b : Int32 → Int32 → Int32) (f g : Nat → Int32) (s n : Int) (v : Int32) : Prop := (∀ j : Nat, (j : Int) < s → g j = f j) ∧ ∀ k : Nat, (k : Int) < n → g (s.toNat + k) = b v (Int32.ofNat k)
theorem jFd.first {b : Int32 → Int32 → Int32} {f : Nat → Int32} {s n : Int} {v : Int32} (h : n ≤ 0) : jFd b f f s n v := ⟨fun _ _ => rfl, fun k hk => absurd hk (by omega)⟩
theorem jFd.step {b : Int32 → Int32 → Int32} {f g g' : Nat → Int32} {s i i' x : Int} {v w y : Int32} (h : jFd b f g s i v) (e : g' = jupd g x.toNat w) (hx : x = s + i) (hw : w = b v y) (hy : y.toInt = i) (h0 : 0 ≤ s) (h1 : 0 ≤ i) (h2 : i ≤ 100) (hi : i' = i + 1) : jFd b f g' s i' v := by
  subst e hx hw hi
  refine ⟨fun j hj => ?_, fun k hk => ?_⟩
  · unfold jupd; rw [if_neg (by omega)]; exact h.1 j hj
  · unfold jupd
    by_cases e : s.toNat + k = (s + i).toNat
    · rw [if_pos e, show y = Int32.ofNat k from by rw [jofn (x := y) (by omega) (by omega)]; congr 1; omega]
    · rw [if_neg e]; exact h.2 k (by omega)
def jTp (f g : Nat → Int32) (n : Int) : Prop := ∀ k : Nat, (k : Int) < n → f k = g k
theorem jTp.feed {f f' g g' : Nat → Int32} {n n' c : Int} {v : Int32} (h : jTp f g n) (a : jFd jBc f f' n c v) (b : jFd jBr g g' n c v) (h0 : 0 ≤ n) (hc : c ≤ 4) (e : n' = n + c) : jTp f' g' n' := by
  intro k hk
  by_cases hq : (k : Int) < n
  · rw [a.1 k hq, b.1 k hq]; exact h k hq
  · have e2 : k = n.toNat + (k - n.toNat) := by omega
    rw [e2, a.2 _ (by omega), b.2 _ (by omega)]; exact jB_eq v _ (by omega)
theorem jTp.le {f g : Nat → Int32} {n n' : Int} (h : jTp f g n) (e : n' ≤ n) : jTp f g n' := fun k hk => h k (by omega)
theorem jTp.at {f g : Nat → Int32} {n : Int} (h : jTp f g n) (p : Int) (h0 : 0 ≤ p) : n ≤ p ∨ (f p.toNat).toInt = (g p.toNat).toInt := by
  by_cases hq : n ≤ p
  · exact Or.inl hq
  · exact Or.inr (by rw [h p.toNat (by omega)])
/-- an order, read -/
def jDg (f : Nat → Int32) (n p : Int) : Prop := p < n ∧ 48 ≤ (f p.toNat).toInt ∧ (f p.toNat).toInt ≤ 57
def jIs (f : Nat → Int32) (n p c : Int) : Prop := p < n ∧ (f p.toNat).toInt = c
def jNb (f : Nat → Int32) (n p k q v : Int) : Prop :=
  (q = 0 ∧ v = 0 ∧ ¬ jDg f n p) ∨
  (q = 1 ∧ jDg f n p ∧ ¬ jDg f n (p + 1) ∧ v = (f p.toNat).toInt - 48) ∨
  (q = 2 ∧ jDg f n p ∧ jDg f n (p + 1) ∧ (k = 2 ∨ ¬ jDg f n (p + 2)) ∧ v = 10 * ((f p.toNat).toInt - 48) + (f (p + 1).toNat).toInt - 48) ∨
  (q = 3 ∧ k = 3 ∧ jDg f n p ∧ jDg f n (p + 1) ∧ jDg f n (p + 2) ∧ v = 100 * ((f p.toNat).toInt - 48) + 10 * ((f (p + 1).toNat).toInt - 48) + (f (p + 2).toNat).toInt - 48)
theorem jNb.det {f g : Nat → Int32} {n p k q v q' v' : Int} (hp : 0 ≤ p) (hk : k = 2 ∨ k = 3) (h : jTp f g n) (a : jNb f n p k q v) (b : jNb g n p k q' v') : q = q' ∧ v = v' := by
  have e0 := h.at p hp
  have e1 := h.at (p + 1) (by omega)
  have e2 := h.at (p + 2) (by omega)
  unfold jNb jDg at a b
  generalize (f p.toNat).toInt = f0 at *
  generalize (g p.toNat).toInt = g0 at *
  generalize (f (p + 1).toNat).toInt = f1 at *
  generalize (g (p + 1).toNat).toInt = g1 at *
  generalize (f (p + 2).toNat).toInt = f2 at *
  generalize (g (p + 2).toNat).toInt = g2 at *
  rcases a with a | a | a | a <;> rcases b with b | b | b | b <;> omega
def jDs (f : Nat → Int32) (n m : Int) : Prop := ∀ j : Nat, (j : Int) < m → (j : Int) < n ∧ 48 ≤ (f j).toInt ∧ (f j).toInt ≤ 51
def jDv (f g : Nat → Int32) (m : Int) : Prop := ∀ j : Nat, (j : Int) < m → (g j).toInt = (f j).toInt - 48
theorem jDs.first {f : Nat → Int32} {n m : Int} (h : m ≤ 0) : jDs f n m := fun j hj => absurd hj (by omega)
theorem jDv.first {f g : Nat → Int32} {m : Int} (h : m ≤ 0) : jDv f g m := fun j hj => absurd hj (by omega)
theorem jDs.step {f : Nat → Int32} {n m m' : Int} (h : jDs f n m) (h0 : 0 ≤ m) (h1 : m < n ∧ 48 ≤ (f m.toNat).toInt ∧ (f m.toNat).toInt ≤ 51) (e : m' = m + 1) : jDs f n m' := by
  intro j hj
  by_cases hq : (j : Int) < m
  · exact h j hq
  · have e2 : j = m.toNat := by omega
    rw [e2]; exact ⟨by omega, h1.2⟩
theorem jDv.step {f g g' : Nat → Int32} {m m' x : Int} {v : Int32} (h : jDv f g m) (h0 : 0 ≤ m) (e1 : g' = jupd g x.toNat v) (hx : x = m) (hv : v.toInt = (f m.toNat).toInt - 48) (e : m' = m + 1) : jDv f g' m' := by
  subst e1 hx
  intro j hj
  unfold jupd
  by_cases hq : j = x.toNat
  · rw [if_pos hq, hq]; exact hv
  · rw [if_neg hq]; exact h j (by omega)
def jMm (f : Nat → Int32) (n m : Int) : Prop := (0 ≤ m ∧ m ≤ 8) ∧ jDs f n m ∧ (m = 8 ∨ ¬ (m < n ∧ 48 ≤ (f m.toNat).toInt ∧ (f m.toNat).toInt ≤ 51))
theorem jMm.det {f g : Nat → Int32} {n m m' : Int} (h : jTp f g n) (a : jMm f n m) (b : jMm g n m') : m = m' := by
  obtain ⟨a1, a2, a3⟩ := a
  obtain ⟨b1, b2, b3⟩ := b
  rcases Int.lt_trichotomy m m' with q | q | q
  · have e := h.at m a1.1
    have b4 := b2 m.toNat (by omega)
    exfalso; omega
  · exact q
  · have e := h.at m' b1.1
    have a4 := a2 m'.toNat (by omega)
    exfalso; omega
def jTm (f : Nat → Int32) (n m p t x : Int) : Prop :=
  (m = 0 ∧ x = 0) ∨ (1 ≤ m ∧ ¬ jIs f n m 58 ∧ p = m ∧ t = 8 ∧ x = -1) ∨
  (1 ≤ m ∧ jIs f n m 58 ∧ ∃ q v : Int, jNb f n (m + 1) 2 q v ∧ (((q = 0 ∨ v < 1 ∨ 12 < v) ∧ x = m + 1) ∨ (1 ≤ q ∧ 1 ≤ v ∧ v ≤ 12 ∧ t = v ∧ p = m + 1 + q ∧ x = -1)))
theorem jTm.det {f g : Nat → Int32} {n m p t x p' t' x' : Int} (h : jTp f g n) (hm : 0 ≤ m) (a : jTm f n m p t x) (b : jTm g n m p' t' x') : x = x' ∧ (x = -1 → p = p' ∧ t = t' ∧ 0 ≤ p) := by
  have e := h.at m hm
  unfold jTm jIs at a b
  rcases a with a | a | ⟨a1, a2, q, v, a3, a4⟩ <;> rcases b with b | b | ⟨b1, b2, q', v', b3, b4⟩
  · omega
  · omega
  · omega
  · omega
  · omega
  · omega
  · omega
  · omega
  · obtain ⟨c1, c2⟩ := jNb.det (by omega) (Or.inl rfl) h a3 b3
    have c3 : 0 ≤ q := by unfold jNb at a3; omega
    omega
def jRm (f : Nat → Int32) (n p r x p2 x2 : Int) : Prop :=
  (0 ≤ x ∧ x2 = x) ∨ (x = -1 ∧ ¬ jIs f n p 114 ∧ r = 0 ∧ p2 = p ∧ x2 = -1) ∨
  (x = -1 ∧ jIs f n p 114 ∧ ∃ q v : Int, jNb f n (p + 1) 3 q v ∧ ((q = 0 ∧ x2 = p + 1) ∨ (1 ≤ q ∧ r = v ∧ p2 = p + 1 + q ∧ x2 = -1)))
theorem jRm.det {f g : Nat → Int32} {n p r x p2 x2 r' p2' x2' : Int} (h : jTp f g n) (hp : x = -1 → 0 ≤ p) (a : jRm f n p r x p2 x2) (b : jRm g n p r' x p2' x2') : x2 = x2' ∧ (x2 = -1 → r = r' ∧ p2 = p2') := by
  unfold jRm jIs at a b
  rcases a with a | a | ⟨a1, a2, q, v, a3, a4⟩
  · rcases b with b | b | ⟨b1, b2, q', v', b3, b4⟩ <;> omega
  · have e := h.at p (hp a.1)
    clear hp h
    rcases b with b | b | ⟨b1, b2, q', v', b3, b4⟩
    · omega
    · omega
    · clear b3; omega
  · have e := h.at p (hp a1)
    have hp2 := hp a1
    clear hp
    rcases b with b | b | ⟨b1, b2, q', v', b3, b4⟩
    · clear a3; omega
    · clear a3; omega
    · obtain ⟨c1, c2⟩ := jNb.det (by omega) (Or.inr rfl) h a3 b3
      omega
def jOrd (f : Nat → Int32) (n m t r x : Int) : Prop := jMm f n m ∧ ∃ p x1 p2 x2 : Int, jTm f n m p t x1 ∧ (x1 = -1 → 0 ≤ p) ∧ jRm f n p r x1 p2 x2 ∧ ((0 ≤ x2 ∧ x = x2) ∨ (x2 = -1 ∧ p2 < n ∧ x = p2 ∧ 0 ≤ p2) ∨ (x2 = -1 ∧ n ≤ p2 ∧ x = -1))
theorem jRm.imp {f : Nat → Int32} {n p p' r x p2 x2 : Int} (a : jRm f n p r x p2 x2) (e : x = -1 → p = p') : jRm f n p' r x p2 x2 := by
  by_cases h : x = -1
  · rw [← e h]; exact a
  · unfold jRm at a ⊢
    rcases a with a | a | ⟨a1, a2⟩
    · exact Or.inl a
    · exact absurd a.1 h
    · exact absurd a1 h
theorem jOrd.det {f g : Nat → Int32} {n m t r x m' t' r' x' : Int} (h : jTp f g n) (a : jOrd f n m t r x) (b : jOrd g n m' t' r' x') : m = m' ∧ x = x' ∧ (x = -1 → t = t' ∧ r = r') := by
  obtain ⟨a1, p, x1, p2, x2, a2, a3, a4, a5⟩ := a
  obtain ⟨b1, q, y1, q2, y2, b2, b3, b4, b5⟩ := b
  have em := a1.det h b1
  subst em
  obtain ⟨c1, c2⟩ := a2.det h a1.1.1 b2
  subst c1
  obtain ⟨d1, d2⟩ := jRm.det h (fun z => (c2 z).2.2) a4 (b4.imp (fun z => (c2 z).1.symm))
  refine ⟨rfl, ?_, ?_⟩
  · by_cases z : x2 = -1
    · have := d2 z; omega
    · omega
  · intro z
    have z2 : x2 = -1 := by omega
    have z1 : x1 = -1 := by
      unfold jRm at a4
      rcases a4 with a4 | a4 | ⟨a4, _⟩ <;> omega
    exact ⟨(c2 z1).2.1, (d2 z2).1⟩
/-- what a call of order does -/
def jOrA (f g g0 : Nat → Int32) (n res M T R M0 T0 R0 : Int) : Prop := ∃ m t r x : Int, jOrd f n m t r x ∧ ((0 ≤ x ∧ res = -100 - x ∧ M = M0 ∧ T = T0 ∧ R = R0 ∧ g = g0) ∨ (x = -1 ∧ res = m ∧ M = m ∧ T = t ∧ R = r ∧ jDv f g m))
def jOrB (f g g0 : Nat → Int32) (n res M T R M0 T0 R0 : Int) : Prop := ∃ m t r x : Int, jOrd f n m t r x ∧ ((0 ≤ x ∧ res = x ∧ M = M0 ∧ T = T0 ∧ R = R0 ∧ g = g0) ∨ (x = -1 ∧ res = -1 ∧ M = m ∧ T = t ∧ R = r ∧ jDv f g m))
def jSo (f g : Nat → Int32) (m : Int) : Prop := ∀ j : Nat, (j : Int) < m → f j = g j
theorem jOrA.det {f f2 g g0 g2 g20 : Nat → Int32} {n res M T R M0 T0 R0 res2 M2 T2 R2 M20 T20 R20 : Int} (h : jTp f f2 n) (a : jOrA f g g0 n res M T R M0 T0 R0) (b : jOrA f2 g2 g20 n res2 M2 T2 R2 M20 T20 R20) (e1 : M0 = M20) (e2 : T0 = T20) (e3 : R0 = R20) (e4 : jSo g0 g20 M0) : res = res2 ∧ M = M2 ∧ T = T2 ∧ R = R2 ∧ jSo g g2 M := by
  obtain ⟨m, t, r, x, a1, a2⟩ := a
  obtain ⟨m', t', r', x', b1, b2⟩ := b
  obtain ⟨c1, c2, c3⟩ := jOrd.det h a1 b1
  subst c1 c2
  have hm := a1.1
  rcases a2 with ⟨q1, q2, q3, q4, q5, q6⟩ | ⟨q1, q2, q3, q4, q5, q6⟩ <;> rcases b2 with ⟨w1, w2, w3, w4, w5, w6⟩ | ⟨w1, w2, w3, w4, w5, w6⟩
  · subst q6 w6; exact ⟨by omega, by omega, by omega, by omega, by rw [q3]; exact e4⟩
  · exact absurd q1 (by omega)
  · exact absurd q1 (by omega)
  · obtain ⟨c4, c5⟩ := c3 q1
    refine ⟨by omega, by omega, by omega, by omega, fun j hj => Int32.toInt_inj.mp ?_⟩
    have e := h j (by have := (hm.2.1 j (by omega)).1; omega)
    rw [q6 j (by omega), w6 j (by omega), e]
theorem jcpy0 {f g : Nat → Int32} {x y n : Int32} {N : Int} (hx : x = 0) (hy : y = 0) (hn : n.toInt = N) : ∀ k : Nat, (k : Int) < N → va_cpy f g x.toNatClampNeg y.toNatClampNeg n.toNatClampNeg k = f k := by
  intro k hk
  subst hx hy
  have e2 : n.toNatClampNeg = N.toNat := by rw [← hn]; rfl
  have e3 : (0 : Int32).toNatClampNeg = 0 := by decide
  unfold va_cpy
  rw [e2, e3, if_pos (by omega)]
  congr 1
  omega

theorem jSo.first {f g : Nat → Int32} {m : Int} (h : m ≤ 0) : jSo f g m := fun j hj => absurd hj (by omega)
theorem jSo.step {f f' g : Nat → Int32} {m m' x : Int} {v : Int32} (h : jSo f g m) (h0 : 0 ≤ m) (e1 : f' = jupd f x.toNat v) (hx : x = m) (hv : v = g m.toNat) (e : m' = m + 1) : jSo f' g m' := by
  subst e1 hx
  intro j hj
  unfold jupd
  by_cases hq : j = x.toNat
  · rw [if_pos hq, hq]; exact hv
  · rw [if_neg hq]; exact h j (by omega)
theorem jDv.so {f g k : Nat → Int32} {m : Int} (h : jDv f g m) (e : jSo k g m) : jDv f k m := fun j hj => by rw [e j hj]; exact h j hj

theorem jOrA.res {f f2 g g0 g2 g20 : Nat → Int32} {n res M T R M0 T0 R0 res2 M2 T2 R2 M20 T20 R20 : Int} (h : jTp f f2 n) (a : jOrA f g g0 n res M T R M0 T0 R0) (b : jOrA f2 g2 g20 n res2 M2 T2 R2 M20 T20 R20) : res = res2 := by
  obtain ⟨m, t, r, x, a1, a2⟩ := a
  obtain ⟨m', t', r', x', b1, b2⟩ := b
  obtain ⟨c1, c2, c3⟩ := jOrd.det h a1 b1
  subst c1 c2
  rcases a2 with ⟨q1, q2, _⟩ | ⟨q1, q2, _⟩ <;> rcases b2 with ⟨w1, w2, _⟩ | ⟨w1, w2, _⟩ <;> omega
theorem jrow_s {σ : Nat → Nat → Int32} {i : Nat} {g : Nat → Int32} : jrow σ i g i = g := if_pos rfl
theorem jSo.trans {f g h : Nat → Int32} {m m1 m2 : Int} (a : jSo f g m1) (b : jSo g h m2) (e1 : m ≤ m1) (e2 : m ≤ m2) : jSo f h m := fun j hj => by rw [a j (by omega), b j (by omega)]
theorem jSo.thru {f g g' : Nat → Int32} {m m' : Int} (h : jSo f g m) (a : jSo g' g m') (e : m ≤ m') : jSo f g' m := fun j hj => by rw [h j hj, a j (by omega)]
theorem jSo.rfl {f : Nat → Int32} {m : Int} : jSo f f m := fun _ _ => Eq.refl _

theorem jall6 {P : Nat → Prop} (h0 : P 0) (h1 : P 1) (h2 : P 2) (h3 : P 3) (h4 : P 4) (h5 : P 5) : ∀ d : Nat, d < 6 → P d := fun d hd => by
  have h9 : d = 0 ∨ d = 1 ∨ d = 2 ∨ d = 3 ∨ d = 4 ∨ d = 5 := by omega
  rcases h9 with rfl | rfl | rfl | rfl | rfl | rfl <;> assumption
def jSh1 (a b c x y : Int32) (n : Int) : Prop := (a = -2 ∧ c = -1) ∨ (a = -1 ∧ c = b ∧ 0 ≤ b.toInt ∧ b.toInt < n) ∨ (0 ≤ a.toInt ∧ a.toInt ≤ 4 ∧ c.toInt = 20 + a.toInt ∧ b = -1 ∧ x = y)
def jShP (so le ru sh ma : Nat → Int32) (n : Int) : Prop := n ≤ 20 ∧ ∀ d : Nat, d < 6 → jSh1 (so d) (ru d) (sh d) (le d) (ma d) n
theorem jShP.up {so le ru sh ma : Nat → Int32} {n n' : Int} (h : jShP so le ru sh ma n) (h1 : n ≤ n') (h2 : n' ≤ 20) : jShP so le ru sh ma n' := by
  refine ⟨h2, fun d hd => ?_⟩
  rcases h.2 d hd with q | ⟨q1, q2, q3, q4⟩ | q
  · exact Or.inl q
  · exact Or.inr (Or.inl ⟨q1, q2, q3, by omega⟩)
  · exact Or.inr (Or.inr q)
theorem jShP.set {so le ru sh ma so' le' ru' sh' ma' : Nat → Int32} {n : Int} {d : Nat} {a b c x y : Int32} (h : jShP so le ru sh ma n) (e1 : so' = jupd so d a) (e2 : le' = jupd le d x) (e3 : ru' = jupd ru d b) (e4 : sh' = jupd sh d c) (e5 : ma' = jupd ma d y) (ok : jSh1 a b c x y n) : jShP so' le' ru' sh' ma' n := by
  subst e1 e2 e3 e4 e5
  refine ⟨h.1, fun k hk => ?_⟩
  unfold jupd
  by_cases e : k = d
  · rw [if_pos e, if_pos e, if_pos e, if_pos e, if_pos e]; exact ok
  · rw [if_neg e, if_neg e, if_neg e, if_neg e, if_neg e]; exact h.2 k hk
theorem jShP.at {so le ru sh ma : Nat → Int32} {n : Int} (h : jShP so le ru sh ma n) {d : Int32} (h0 : 0 ≤ d.toInt) (h1 : d.toInt ≤ 5) :
    ((so d.toNatClampNeg).toInt = -2 ∧ (sh d.toNatClampNeg).toInt = -1) ∨ ((so d.toNatClampNeg).toInt = -1 ∧ sh d.toNatClampNeg = ru d.toNatClampNeg ∧ 0 ≤ (ru d.toNatClampNeg).toInt ∧ (ru d.toNatClampNeg).toInt < n) ∨ (0 ≤ (so d.toNatClampNeg).toInt ∧ (so d.toNatClampNeg).toInt ≤ 4 ∧ (sh d.toNatClampNeg).toInt = 20 + (so d.toNatClampNeg).toInt ∧ (ru d.toNatClampNeg).toInt = -1 ∧ (le d.toNatClampNeg).toInt = (ma d.toNatClampNeg).toInt) := by
  have hd : d.toNatClampNeg < 6 := jnat (x := d) (A := d.toInt) rfl (by omega) (by decide)
  rcases h.2 _ hd with ⟨q1, q2⟩ | ⟨q1, q2, q3, q4⟩ | ⟨q1, q2, q3, q4, q5⟩
  · exact Or.inl ⟨by rw [q1]; decide, by rw [q2]; decide⟩
  · exact Or.inr (Or.inl ⟨by rw [q1]; decide, q2, q3, q4⟩)
  · exact Or.inr (Or.inr ⟨q1, q2, q3, by rw [q4]; decide, by rw [q5]⟩)
def jRf (d i so le : Int) : Int := if d < 0 ∨ 5 < d then -1 else if so = -2 then -11 else if so = -1 then -12 else if i < 0 ∨ le ≤ i then -13 else 1
def jRg (d i sh ma : Int) : Int := if d < 0 ∨ 5 < d then -1 else if sh < 0 then -11 else if sh < 20 then -12 else if i < 0 ∨ ma ≤ i then -13 else 1
theorem jShP.rf {so le ru sh ma : Nat → Int32} {n : Int} (h : jShP so le ru sh ma n) {d : Int32} {i : Int} : jRf d.toInt i (so d.toNatClampNeg).toInt (le d.toNatClampNeg).toInt = jRg d.toInt i (sh d.toNatClampNeg).toInt (ma d.toNatClampNeg).toInt := by
  have hn := h.1
  unfold jRf jRg
  by_cases hd : d.toInt < 0 ∨ 5 < d.toInt
  · rw [if_pos hd, if_pos hd]
  rw [if_neg hd, if_neg hd]
  rcases h.at (d := d) (by omega) (by omega) with ⟨q1, q2⟩ | ⟨q1, q2, q3, q4⟩ | ⟨q1, q2, q3, q4, q5⟩
  · (repeat' split) <;> omega
  · have q5 : (sh d.toNatClampNeg).toInt = (ru d.toNatClampNeg).toInt := by rw [q2]
    (repeat' split) <;> omega
  · rw [q5]; (repeat' split) <;> omega
def jSf (d i e j n so se le lo : Int) : Int := if d < 0 ∨ 5 < d ∨ e < 0 ∨ 5 < e then -1 else if so = -2 ∨ se = -2 then -11 else if so = -1 ∨ so ≠ se then -12 else if n < 0 ∨ i < 0 ∨ j < 0 ∨ le - i < n ∨ lo - j < n then -13 else n
def jSg (d i e j n so se le lo : Int) : Int := if d < 0 ∨ 5 < d ∨ e < 0 ∨ 5 < e then -1 else if so < 0 ∨ se < 0 then -11 else if so < 20 ∨ so ≠ se then -12 else if n < 0 ∨ i < 0 ∨ j < 0 ∨ le - i < n ∨ lo - j < n then -13 else n
theorem jShP.sf {so le ru sh ma : Nat → Int32} {n : Int} (h : jShP so le ru sh ma n) {d e : Int32} {i j k : Int} : jSf d.toInt i e.toInt j k (so d.toNatClampNeg).toInt (so e.toNatClampNeg).toInt (le d.toNatClampNeg).toInt (le e.toNatClampNeg).toInt = jSg d.toInt i e.toInt j k (sh d.toNatClampNeg).toInt (sh e.toNatClampNeg).toInt (ma d.toNatClampNeg).toInt (ma e.toNatClampNeg).toInt := by
  have hn := h.1
  unfold jSf jSg
  by_cases hd : d.toInt < 0 ∨ 5 < d.toInt ∨ e.toInt < 0 ∨ 5 < e.toInt
  · rw [if_pos hd, if_pos hd]
  rw [if_neg hd, if_neg hd]
  have hx := h.at (d := d) (by omega) (by omega)
  have hy := h.at (d := e) (by omega) (by omega)
  generalize (so d.toNatClampNeg).toInt = s1 at *
  generalize (so e.toNatClampNeg).toInt = s2 at *
  generalize (le d.toNatClampNeg).toInt = l1 at *
  generalize (le e.toNatClampNeg).toInt = l2 at *
  generalize (ma d.toNatClampNeg).toInt = m1 at *
  generalize (ma e.toNatClampNeg).toInt = m2 at *
  have hx' : (s1 = -2 ∧ (sh d.toNatClampNeg).toInt = -1) ∨ (s1 = -1 ∧ 0 ≤ (sh d.toNatClampNeg).toInt ∧ (sh d.toNatClampNeg).toInt < 20) ∨ (0 ≤ s1 ∧ s1 ≤ 4 ∧ (sh d.toNatClampNeg).toInt = 20 + s1 ∧ l1 = m1) := by
    rcases hx with q | ⟨q1, q2, q3, q4⟩ | ⟨q1, q2, q3, q4, q5⟩
    · exact Or.inl q
    · rw [q2]; exact Or.inr (Or.inl ⟨q1, q3, by omega⟩)
    · exact Or.inr (Or.inr ⟨q1, q2, q3, q5⟩)
  have hy' : (s2 = -2 ∧ (sh e.toNatClampNeg).toInt = -1) ∨ (s2 = -1 ∧ 0 ≤ (sh e.toNatClampNeg).toInt ∧ (sh e.toNatClampNeg).toInt < 20) ∨ (0 ≤ s2 ∧ s2 ≤ 4 ∧ (sh e.toNatClampNeg).toInt = 20 + s2 ∧ l2 = m2) := by
    rcases hy with q | ⟨q1, q2, q3, q4⟩ | ⟨q1, q2, q3, q4, q5⟩
    · exact Or.inl q
    · rw [q2]; exact Or.inr (Or.inl ⟨q1, q3, by omega⟩)
    · exact Or.inr (Or.inr ⟨q1, q2, q3, q5⟩)
  clear hx hy
  generalize (sh d.toNatClampNeg).toInt = t1 at *
  generalize (sh e.toNatClampNeg).toInt = t2 at *
  (repeat' split) <;> omega
abbrev jUnd (k o : Int) : Prop := o = k ∨ o = 0 ∨ (k = 3 ∧ o = 2) ∨ (k = 4 ∧ o = 1) ∨ (k = 5 ∧ o = 3) ∨ (k = 5 ∧ o = 2)
def jTk (d k so ru kd n : Int) : Int := if d < 0 ∨ 5 < d ∨ k < 0 ∨ 6 < k then -1 else if so = -2 then -11 else if ru < 0 then -12 else if n ≤ ru then (if ¬ jUnd 0 k then -12 else 0) else if ¬ jUnd kd k then -12 else kd
def jTg (d k sh kd : Int) : Int := if d < 0 ∨ 5 < d ∨ k < 0 ∨ 6 < k then -1 else if sh < 0 then -11 else if 20 ≤ sh ∨ ¬ jUnd kd k then -12 else kd
/-- kinds of class and reference are the same -/
def jKd (f g : Nat → Int32) (n : Int) : Prop := ∀ r : Nat, (r : Int) < n → f r = g r
theorem jKd.on {f g f' g' : Nat → Int32} {n n' : Int} {v : Int32} (h : jKd f g n) (e1 : f' = jupd f n.toNat v) (e2 : g' = jupd g n.toNat v) (e3 : n' = n + 1) (h0 : 0 ≤ n) : jKd f' g' n' := by
  subst e1 e2
  intro r hr
  unfold jupd
  by_cases e : r = n.toNat
  · rw [if_pos e, if_pos e]
  · rw [if_neg e, if_neg e]; exact h r (by omega)
theorem jShP.tk {so le ru sh ma : Nat → Int32} {f g : Nat → Int32} {n : Int} (h : jShP so le ru sh ma n) (h2 : jKd f g n) {d : Int32} {k : Int} : jTk d.toInt k (so d.toNatClampNeg).toInt (ru d.toNatClampNeg).toInt (f (ru d.toNatClampNeg).toNatClampNeg).toInt n = jTg d.toInt k (sh d.toNatClampNeg).toInt (g (sh d.toNatClampNeg).toNatClampNeg).toInt := by
  have hn := h.1
  unfold jTk jTg
  by_cases hd : d.toInt < 0 ∨ 5 < d.toInt ∨ k < 0 ∨ 6 < k
  · rw [if_pos hd, if_pos hd]
  rw [if_neg hd, if_neg hd]
  rcases h.at (d := d) (by omega) (by omega) with ⟨q1, q2⟩ | ⟨q1, q2, q3, q4⟩ | ⟨q1, q2, q3, q4, q5⟩
  · rw [if_pos q1, if_pos (by omega)]
  · have q5 : f (ru d.toNatClampNeg).toNatClampNeg = g (ru d.toNatClampNeg).toNatClampNeg := h2 _ (by rw [jnc (rfl : (ru d.toNatClampNeg).toInt = _)]; omega)
    rw [q2, q5]
    generalize (g (ru d.toNatClampNeg).toNatClampNeg).toInt = kd
    rw [if_neg (show ¬ (so d.toNatClampNeg).toInt = -2 by omega), if_neg (show ¬ (ru d.toNatClampNeg).toInt < 0 by omega), if_neg (show ¬ n ≤ (ru d.toNatClampNeg).toInt by omega)]
    by_cases c : jUnd kd k
    · rw [if_neg (show ¬ ¬ jUnd kd k from fun w => w c), if_neg (show ¬ (ru d.toNatClampNeg).toInt < 0 by omega), if_neg (show ¬ (20 ≤ (ru d.toNatClampNeg).toInt ∨ ¬ jUnd kd k) from fun w => Or.elim w (fun w => absurd w (by omega)) (fun w => w c))]
    · rw [if_pos c, if_neg (show ¬ (ru d.toNatClampNeg).toInt < 0 by omega), if_pos (show 20 ≤ (ru d.toNatClampNeg).toInt ∨ ¬ jUnd kd k from Or.inr c)]
  · rw [if_neg (show ¬ (so d.toNatClampNeg).toInt = -2 by omega), if_neg (show ¬ (sh d.toNatClampNeg).toInt < 0 by omega), if_pos (show (ru d.toNatClampNeg).toInt < 0 by omega), if_pos (Or.inl (show 20 ≤ (sh d.toNatClampNeg).toInt by omega))]
/-! elements of rows -/
def jCut (s : Int) (v : Int64) : Int64 := if s = 0 then v.toInt32.toInt8.toInt32.toInt64 else if s = 1 then v.toInt32.toInt16.toInt32.toInt64 else if s = 2 then v.toInt32.toInt64 else if s = 3 then v else if v.toInt = 0 then 0 else 1
theorem jupL_row {τ : Nat → Nat → Int64} {i n : Nat} {v : Int64} : jupL τ i n v i = vp_updL (τ i) n v := by simp [jupL, va_up]
theorem jrowL_s {τ : Nat → Nat → Int64} {i : Nat} {g : Nat → Int64} : jrowL τ i g i = g := if_pos rfl
/-- zeros are laid -/
def jFl (f g : Nat → Int64) (q : Nat) (n : Int) : Prop := (∀ k : Nat, (k : Int) < n → g (q + k) = 0) ∧ ∀ p : Nat, (p < q ∨ (q : Int) + n ≤ p) → g p = f p
theorem jFl.first {f : Nat → Int64} {q : Nat} {n : Int} (h : n = 0) : jFl f f q n := ⟨fun k hk => absurd hk (by omega), fun _ _ => rfl⟩
theorem jFl.n {f g : Nat → Int64} {q : Nat} {n m : Int} (h : jFl f g q n) (e : n = m) : jFl f g q m := e ▸ h
theorem jFl.step {f g g' : Nat → Int64} {q x : Nat} {n n' : Int} (h : jFl f g q n) (h0 : 0 ≤ n) (e : g' = vp_updL g x 0) (hx : (x : Int) = q + n) (hn : n' = n + 1) : jFl f g' q n' := by
  subst e hn
  refine ⟨fun k hk => ?_, fun p hp => ?_⟩
  · unfold vp_updL
    by_cases e : q + k = x
    · rw [if_pos e]
    · rw [if_neg e]; exact h.1 k (by omega)
  · unfold vp_updL
    rw [if_neg (by omega)]; exact h.2 p (by omega)
/-- a write: done where c is 1 -/
def jPt (c : Int) (q : Nat) (x : Int64) (f g : Nat → Int64) : Prop := (c = 1 ∧ g = vp_updL f q x) ∨ (c ≠ 1 ∧ g = f)
/-- a part is moved: done where c is not below 0 -/
def jMvL (c : Int) (q1 q2 : Nat) (n : Int) (f g : Nat → Int64) : Prop := (0 ≤ c ∧ (∀ k : Nat, (k : Int) < n → g (q2 + k) = f (q1 + k)) ∧ ∀ p : Nat, (p < q2 ∨ (q2 : Int) + n ≤ p) → g p = f p) ∨ (c < 0 ∧ g = f)
/-- some of a row is copied to another -/
def jCo (f g g' : Nat → Int64) (q1 q2 : Nat) (n : Int) : Prop := (∀ k : Nat, (k : Int) < n → g' (q2 + k) = f (q1 + k)) ∧ ∀ p : Nat, (p < q2 ∨ (q2 : Int) + n ≤ p) → g' p = g p
theorem jCo.first {f g : Nat → Int64} {q1 q2 : Nat} {n : Int} (h : n = 0) : jCo f g g q1 q2 n := ⟨fun k hk => absurd hk (by omega), fun _ _ => rfl⟩
theorem jCo.step {f g g' g'' : Nat → Int64} {q1 q2 x : Nat} {n n' : Int} {v : Int64} (h : jCo f g g' q1 q2 n) (h0 : 0 ≤ n) (e : g'' = vp_updL g' x v) (hx : (x : Int) = q2 + n) (hv : v = f (q1 + n.toNat)) (hn : n' = n + 1) : jCo f g g'' q1 q2 n' := by
  subst e hn
  refine ⟨fun k hk => ?_, fun p hp => ?_⟩
  · unfold vp_updL
    by_cases e : q2 + k = x
    · rw [if_pos e, hv]; congr 1; omega
    · rw [if_neg e]; exact h.1 k (by omega)
  · unfold vp_updL
    rw [if_neg (by omega)]; exact h.2 p (by omega)
theorem jCo.mvl {f g h h' : Nat → Int64} {q1 q2 : Nat} {n c : Int} (a : jCo f g h q1 0 n) (b : jCo h f h' 0 q2 n) (hc : 0 ≤ c) : jMvL c q1 q2 n f h' :=
  Or.inl ⟨hc, fun k hk => by rw [b.1 k hk, Nat.zero_add]; have := a.1 k hk; rw [Nat.zero_add] at this; exact this, fun p hp => b.2 p hp⟩
theorem jcpyM {f : Nat → Int64} {x y n : Int32} {X Y N c : Int} (hx : x.toInt = X) (hy : y.toInt = Y) (hn : n.toInt = N) (hc : 0 ≤ c) (h0 : 0 ≤ Y) (h1 : 0 ≤ N) : jMvL c X.toNat Y.toNat N f (va_cpy f f x.toNatClampNeg y.toNatClampNeg n.toNatClampNeg) := by
  rw [jnc hx, jnc hy, jnc hn]
  refine Or.inl ⟨hc, fun k hk => ?_, fun p hp => ?_⟩
  · unfold va_cpy; rw [if_pos (by omega)]; congr 1; omega
  · unfold va_cpy; rw [if_neg (by omega)]
/-- elements of class and reference are the same, as far as they are had -/
def jEl (so le : Nat → Int32) (f g : Nat → Int64) : Prop := ∀ d : Nat, d < 6 → 0 ≤ (so d).toInt → ∀ i : Nat, (i : Int) < (le d).toInt → f (60 * d + i) = g (60 * d + i)
theorem jEl.keep {so le so' le' : Nat → Int32} {f g : Nat → Int64} {d : Nat} {a x : Int32} (h : jEl so le f g) (e1 : so' = jupd so d a) (e2 : le' = jupd le d x) (ha : a.toInt < 0) : jEl so' le' f g := by
  subst e1 e2
  intro k hk h0 i hi
  unfold jupd at h0 hi
  by_cases e : k = d
  · rw [if_pos e] at h0; exact absurd h0 (by omega)
  · rw [if_neg e] at h0 hi; exact h k hk h0 i hi
theorem jEl.row {so le so' le' : Nat → Int32} {f g f' g' : Nat → Int64} {d q1 q2 : Nat} {a x : Int32} {n n2 : Int} (h : jEl so le f g) (hl : ∀ k : Nat, k < 6 → 0 ≤ (le k).toInt ∧ (le k).toInt ≤ 60) (e1 : so' = jupd so d a) (e2 : le' = jupd le d x) (u : jFl f f' q1 n) (w : jFl g g' q2 n2) (eq1 : q1 = 60 * d) (eq2 : q2 = 60 * d) (hx : x.toInt ≤ n) (hx2 : x.toInt ≤ n2) (hn : n ≤ 60) (hn2 : n2 ≤ 60) : jEl so' le' f' g' := by
  subst e1 e2 eq1 eq2
  intro k hk h0 i hi
  unfold jupd at h0 hi
  by_cases e : k = d
  · subst e
    rw [if_pos rfl] at h0 hi
    rw [u.1 i (by omega), w.1 i (by omega)]
  · rw [if_neg e] at h0 hi
    have := hl k hk
    rw [u.2 _ (by omega), w.2 _ (by omega)]; exact h k hk h0 i hi
theorem jEl.put {so le : Nat → Int32} {f g f' g' : Nat → Int64} {c c2 : Int} {q q2 : Nat} {x x2 : Int64} (h : jEl so le f g) (u : jPt c q x f f') (w : jPt c2 q2 x2 g g') (ec : c = c2) (eq : q = q2) (ex : c = 1 → x = x2) : jEl so le f' g' := by
  subst ec eq
  intro k hk h0 i hi
  rcases u with ⟨u1, u2⟩ | ⟨u1, u2⟩
  · rcases w with ⟨w1, w2⟩ | ⟨w1, w2⟩
    · subst u2 w2
      unfold vp_updL
      by_cases e : 60 * k + i = q
      · rw [if_pos e, if_pos e, ex u1]
      · rw [if_neg e, if_neg e]; exact h k hk h0 i hi
    · exact absurd u1 w1
  · rcases w with ⟨w1, w2⟩ | ⟨w1, w2⟩
    · exact absurd w1 u1
    · subst u2 w2; exact h k hk h0 i hi
theorem jEl.move {so le : Nat → Int32} {f g f' g' : Nat → Int64} {c c2 n n2 : Int} {q1 q2 r1 r2 : Nat} {d i e j : Int} (h : jEl so le f g) (hl : ∀ k : Nat, k < 6 → 0 ≤ (le k).toInt ∧ (le k).toInt ≤ 60) (u : jMvL c q1 q2 n f f') (w : jMvL c2 r1 r2 n2 g g') (ec : c = c2) (en : n = n2) (e1 : q1 = r1) (e2 : q2 = r2) (b1 : q1 = (60 * d + i).toNat) (b2 : q2 = (60 * e + j).toNat)
    (ok : 0 ≤ c → 0 ≤ n ∧ (0 ≤ d ∧ d < 6) ∧ (0 ≤ e ∧ e < 6) ∧ 0 ≤ i ∧ 0 ≤ j ∧ 0 ≤ (so d.toNat).toInt ∧ i + n ≤ (le d.toNat).toInt ∧ j + n ≤ (le e.toNat).toInt) : jEl so le f' g' := by
  subst ec en e1 e2
  intro k hk h0 m hm
  rcases u with ⟨u1, u2, u3⟩ | ⟨u1, u2⟩
  · rcases w with ⟨w1, w2, w3⟩ | ⟨w1, w2⟩
    · obtain ⟨o1, o2, o3, o4, o5, o6, o7, o8⟩ := ok u1
      have l1 := hl d.toNat (by omega)
      have l2 := hl e.toNat (by omega)
      have l3 := hl k hk
      by_cases hp : 60 * k + m < q2 ∨ (q2 : Int) + n ≤ (60 * k + m : Nat)
      · rw [u3 _ hp, w3 _ hp]; exact h k hk h0 m hm
      · have e9 : 60 * k + m = q2 + (60 * k + m - q2) := by omega
        rw [e9, u2 _ (by omega), w2 _ (by omega)]
        have e8 : q1 + (60 * k + m - q2) = 60 * d.toNat + (i.toNat + (60 * k + m - q2)) := by omega
        rw [e8]
        exact h d.toNat (by omega) o6 _ (by omega)
    · exact absurd u1 (by omega)
  · rcases w with ⟨w1, _⟩ | ⟨w1, w2⟩
    · exact absurd w1 (by omega)
    · subst u2 w2; exact h k hk h0 m hm
theorem jcmpz {x y : Int64} (h : x = y) : lg_cmp x y = 0 := by
  subst h
  rcases jcmp (rfl : x.toInt = x.toInt) (rfl : x.toInt = x.toInt) with ⟨h1, e⟩ | ⟨h1, e⟩ | ⟨h1, e⟩
  all_goals first | exact e | exact absurd h1 (by omega)
theorem jMvL.c {c c' : Int} {q1 q2 : Nat} {n : Int} {f g : Nat → Int64} (h : jMvL c q1 q2 n f g) (h0 : 0 ≤ c) (h1 : 0 ≤ c') : jMvL c' q1 q2 n f g := by
  rcases h with ⟨_, a, b⟩ | ⟨a, _⟩
  · exact Or.inl ⟨h1, a, b⟩
  · exact absurd a (by omega)
/-- an element is had where c is 1 -/
def jGt (c : Int) (q : Nat) (f : Nat → Int64) (r : Int64) : Prop := (c = 1 ∧ r = f q) ∨ (c ≠ 1 ∧ r = (-9223372036854775808))
theorem jShP.cut {so le ru sh ma : Nat → Int32} {n : Int} (h : jShP so le ru sh ma n) {d : Int32} {i c : Int} (e : c = jRf d.toInt i (so d.toNatClampNeg).toInt (le d.toNatClampNeg).toInt) (hc : c = 1) : (so d.toNatClampNeg).toInt = (sh d.toNatClampNeg).toInt - 20 ∧ (0 ≤ d.toInt ∧ d.toInt ≤ 5) ∧ 0 ≤ i ∧ i < (le d.toNatClampNeg).toInt ∧ 0 ≤ (so d.toNatClampNeg).toInt := by
  subst hc
  unfold jRf at e
  by_cases hd : d.toInt < 0 ∨ 5 < d.toInt
  · rw [if_pos hd] at e; exact absurd e (by decide)
  rw [if_neg hd] at e
  have hx := h.at (d := d) (by omega) (by omega)
  generalize (ru d.toNatClampNeg).toInt = z at hx
  generalize (so d.toNatClampNeg).toInt = s1 at *
  by_cases c1 : s1 = -2
  · rw [if_pos c1] at e; exact absurd e (by decide)
  rw [if_neg c1] at e
  by_cases c2 : s1 = -1
  · rw [if_pos c2] at e; exact absurd e (by decide)
  rw [if_neg c2] at e
  by_cases c3 : i < 0 ∨ (le d.toNatClampNeg).toInt ≤ i
  · rw [if_pos c3] at e; exact absurd e (by decide)
  rcases hx with q | ⟨q1, q2, q3⟩ | q
  · exact absurd q.1 c1
  · exact absurd q1 c2
  · omega
theorem jShP.mvok {so le ru sh ma : Nat → Int32} {n : Int} (h : jShP so le ru sh ma n) {d e : Int32} {i j k c : Int} (q : c = jSf d.toInt i e.toInt j k (so d.toNatClampNeg).toInt (so e.toNatClampNeg).toInt (le d.toNatClampNeg).toInt (le e.toNatClampNeg).toInt) (hc : 0 ≤ c) :
    0 ≤ k ∧ (0 ≤ d.toInt ∧ d.toInt < 6) ∧ (0 ≤ e.toInt ∧ e.toInt < 6) ∧ 0 ≤ i ∧ 0 ≤ j ∧ 0 ≤ (so d.toInt.toNat).toInt ∧ i + k ≤ (le d.toInt.toNat).toInt ∧ j + k ≤ (le e.toInt.toNat).toInt := by
  unfold jSf at q
  by_cases hd : d.toInt < 0 ∨ 5 < d.toInt ∨ e.toInt < 0 ∨ 5 < e.toInt
  · rw [if_pos hd] at q; exact absurd hc (by omega)
  rw [if_neg hd] at q
  have hx := h.at (d := d) (by omega) (by omega)
  rw [jnc (rfl : d.toInt = d.toInt)] at q hx
  rw [jnc (rfl : e.toInt = e.toInt)] at q
  generalize (so d.toInt.toNat).toInt = s1 at *
  generalize (so e.toInt.toNat).toInt = s2 at *
  generalize (le d.toInt.toNat).toInt = l1 at *
  generalize (le e.toInt.toNat).toInt = l2 at *
  by_cases c1 : s1 = -2 ∨ s2 = -2
  · rw [if_pos c1] at q; exact absurd hc (by omega)
  rw [if_neg c1] at q
  by_cases c2 : s1 = -1 ∨ s1 ≠ s2
  · rw [if_pos c2] at q; exact absurd hc (by omega)
  rw [if_neg c2] at q
  by_cases c3 : k < 0 ∨ i < 0 ∨ j < 0 ∨ l1 - i < k ∨ l2 - j < k
  · rw [if_pos c3] at q; exact absurd hc (by omega)
  rcases hx with w | ⟨w1, w2, w3⟩ | w
  · exact absurd w.1 (by omega)
  · exact absurd w1 (by omega)
  · omega
theorem jEl.get {so le : Nat → Int32} {f g : Nat → Int64} (h : jEl so le f g) {so2 : Int} {d : Int32} {i c c2 : Int} {r r2 : Int64} {q q2 : Nat} (u : jGt c q f r) (w : jGt c2 q2 g r2) (ec : c = c2) (eq : q = (60 * d.toInt + i).toNat) (eq2 : q2 = q) (ok : c = 1 → (0 ≤ d.toInt ∧ d.toInt ≤ 5) ∧ 0 ≤ i ∧ i < (le d.toNatClampNeg).toInt ∧ 0 ≤ (so d.toNatClampNeg).toInt) (z : so2 = 0) : r = r2 := by
  subst ec eq2
  rcases u with ⟨u1, u2⟩ | ⟨u1, u2⟩
  · rcases w with ⟨w1, w2⟩ | ⟨w1, w2⟩
    · obtain ⟨o1, o2, o3, o4⟩ := ok u1
      rw [jnc (rfl : d.toInt = d.toInt)] at o3 o4
      rw [u2, w2, eq, show (60 * d.toInt + i).toNat = 60 * d.toInt.toNat + i.toNat by omega]
      exact h _ (by omega) o4 _ (by omega)
    · exact absurd u1 w1
  · rcases w with ⟨w1, w2⟩ | ⟨w1, w2⟩
    · exact absurd w1 u1
    · rw [u2, w2]

def jLf (a b : Int32) : Int32 := (a >>> ((11 + 4 * b) &&& 31)) &&& 15
def jSt (a b : Int32) : Int32 := (a >>> ((3 + 2 * b) &&& 31)) &&& 3
def jLa (a : Int32) : Int32 := a &&& 7
def jWl (a b v : Int32) : Int32 := (a &&& ((15 <<< ((11 + 4 * b) &&& 31)) ^^^ (-1))) ||| ((v &&& 15) <<< ((11 + 4 * b) &&& 31))
def jWs (a b v : Int32) : Int32 := (a &&& ((3 <<< ((3 + 2 * b) &&& 31)) ^^^ (-1))) ||| ((v &&& 3) <<< ((3 + 2 * b) &&& 31))
-- bit vectors: a field of width w at position p
def jgeb (a : BitVec 32) (p : Nat) (m : BitVec 32) : BitVec 32 := (a.sshiftRight p) &&& m
def jpub (a : BitVec 32) (p : Nat) (m v : BitVec 32) : BitVec 32 := (a &&& ((m <<< p) ^^^ 0xffffffff#32)) ||| ((v &&& m) <<< p)
theorem jm_bit (w : Nat) (hw : w ≤ 4) (i : Nat) : (BitVec.ofNat 32 (2 ^ w - 1)).getLsbD i = decide (i < w) := by
  have : w = 0 ∨ w = 1 ∨ w = 2 ∨ w = 3 ∨ w = 4 := by omega
  rw [BitVec.getLsbD_ofNat, Nat.testBit_two_pow_sub_one]
  by_cases h : i < 32
  · simp [h]
  · have h2 : ¬ i < w := by omega
    simp [h, h2]
theorem jall1 (i : Nat) (h : i < 32) : (0xffffffff#32).getLsbD i = true := by
  have : (0xffffffff#32) = BitVec.allOnes 32 := by decide
  rw [this, BitVec.getLsbD_allOnes]; simp [h]
theorem jget_put (a v : BitVec 32) (p q w u : Nat) (hw : w ≤ 4) (hu : u ≤ 4) (hp : p + w ≤ 31) (hq : q + u ≤ 31) (hd : p + w ≤ q ∨ q + u ≤ p) : jgeb (jpub a p (BitVec.ofNat 32 (2 ^ w - 1)) v) q (BitVec.ofNat 32 (2 ^ u - 1)) = jgeb a q (BitVec.ofNat 32 (2 ^ u - 1)) := by
  unfold jgeb jpub
  apply BitVec.eq_of_getLsbD_eq
  intro i hi
  rw [BitVec.getLsbD_and, BitVec.getLsbD_and, jm_bit u hu]
  by_cases h : i < u
  · have h1 : ¬ 32 ≤ i := by omega
    have h2 : q + i < 32 := by omega
    rw [BitVec.getLsbD_sshiftRight, BitVec.getLsbD_sshiftRight]
    simp only [h1, h2, h, decide_true, decide_false, Bool.and_true, if_true, Bool.not_false, Bool.true_and]
    rw [BitVec.getLsbD_or, BitVec.getLsbD_and, BitVec.getLsbD_xor, BitVec.getLsbD_shiftLeft, BitVec.getLsbD_shiftLeft, jm_bit w hw, BitVec.getLsbD_and, jm_bit w hw, jall1 _ h2]
    by_cases h3 : q + i < p
    · simp [h3]
    · have h4 : ¬ q + i - p < w := by omega
      simp [h3, h4]
  · simp [h]
theorem jget_same (a v : BitVec 32) (p w : Nat) (hw : w ≤ 4) (hp : p + w ≤ 31) : jgeb (jpub a p (BitVec.ofNat 32 (2 ^ w - 1)) v) p (BitVec.ofNat 32 (2 ^ w - 1)) = v &&& (BitVec.ofNat 32 (2 ^ w - 1)) := by
  unfold jgeb jpub
  apply BitVec.eq_of_getLsbD_eq
  intro i hi
  rw [BitVec.getLsbD_and, BitVec.getLsbD_and, jm_bit w hw]
  by_cases h : i < w
  · have h1 : ¬ 32 ≤ i := by omega
    have h2 : p + i < 32 := by omega
    rw [BitVec.getLsbD_sshiftRight]
    simp only [h1, h2, h, decide_true, decide_false, Bool.and_true, if_true, Bool.not_false, Bool.true_and]
    rw [BitVec.getLsbD_or, BitVec.getLsbD_and, BitVec.getLsbD_xor, BitVec.getLsbD_shiftLeft, BitVec.getLsbD_shiftLeft, jm_bit w hw, BitVec.getLsbD_and, jm_bit w hw, jall1 _ h2]
    have h3 : ¬ p + i < p := by omega
    have h4 : p + i - p = i := by omega
    simp [h3, h4, h, h2]
  · simp [h]
theorem jget_put0 (a v : BitVec 32) (p w : Nat) (hw : w ≤ 4) (hp : 3 ≤ p) : (jpub a p (BitVec.ofNat 32 (2 ^ w - 1)) v) &&& 7#32 = a &&& 7#32 := by
  unfold jpub
  apply BitVec.eq_of_getLsbD_eq
  intro i hi
  rw [BitVec.getLsbD_and, BitVec.getLsbD_and, show (7#32) = BitVec.ofNat 32 (2 ^ 3 - 1) from rfl, jm_bit 3 (by decide)]
  by_cases h : i < 3
  · rw [BitVec.getLsbD_or, BitVec.getLsbD_and, BitVec.getLsbD_xor, BitVec.getLsbD_shiftLeft, BitVec.getLsbD_shiftLeft, jall1 _ hi]
    have h3 : i < p := by omega
    simp [h3, h]
  · simp [h]
theorem j8_bit (i : Nat) (h : i < 32) : (0xfffffff8#32).getLsbD i = decide (3 ≤ i) := by
  have e : (0xfffffff8#32) = (7#32) ^^^ (0xffffffff#32) := by decide
  rw [e, BitVec.getLsbD_xor, jall1 _ h, show (7#32) = BitVec.ofNat 32 (2 ^ 3 - 1) from rfl, jm_bit 3 (by decide)]
  by_cases h2 : i < 3
  · have : ¬ 3 ≤ i := by omega
    simp [h2, this]
  · have : 3 ≤ i := by omega
    simp [h2, this]
theorem jla_bits (a n : BitVec 32) (hn : n &&& 7#32 = n) : ((a &&& 0xfffffff8#32) ||| n) &&& 7#32 = n := by
  apply BitVec.eq_of_getLsbD_eq
  intro i hi
  have hb : n.getLsbD i = (n &&& 7#32).getLsbD i := by rw [hn]
  rw [BitVec.getLsbD_and, show (7#32) = BitVec.ofNat 32 (2 ^ 3 - 1) from rfl, jm_bit 3 (by decide)] at hb
  rw [BitVec.getLsbD_and, BitVec.getLsbD_or, BitVec.getLsbD_and, j8_bit _ hi, show (7#32) = BitVec.ofNat 32 (2 ^ 3 - 1) from rfl, jm_bit 3 (by decide)]
  by_cases h : i < 3
  · have : ¬ 3 ≤ i := by omega
    simp [h, this]
  · rw [hb]; simp [h]
theorem jwa_bits (a n : BitVec 32) (q u : Nat) (hu : u ≤ 4) (hq : q + u ≤ 31) (h3 : 3 ≤ q) (hn : n &&& 7#32 = n) : jgeb ((a &&& 0xfffffff8#32) ||| n) q (BitVec.ofNat 32 (2 ^ u - 1)) = jgeb a q (BitVec.ofNat 32 (2 ^ u - 1)) := by
  unfold jgeb
  apply BitVec.eq_of_getLsbD_eq
  intro i hi
  rw [BitVec.getLsbD_and, BitVec.getLsbD_and, jm_bit u hu]
  by_cases h : i < u
  · have h1 : ¬ 32 ≤ i := by omega
    have h2 : q + i < 32 := by omega
    have hb : n.getLsbD (q + i) = (n &&& 7#32).getLsbD (q + i) := by rw [hn]
    have h4 : ¬ q + i < 3 := by omega
    rw [BitVec.getLsbD_and, show (7#32) = BitVec.ofNat 32 (2 ^ 3 - 1) from rfl, jm_bit 3 (by decide)] at hb
    rw [BitVec.getLsbD_sshiftRight, BitVec.getLsbD_sshiftRight]
    simp only [h1, h2, h, decide_true, decide_false, Bool.and_true, if_true, Bool.not_false, Bool.true_and]
    rw [BitVec.getLsbD_or, BitVec.getLsbD_and, j8_bit _ h2, hb]
    have h5 : 3 ≤ q + i := by omega
    simp [h4, h5]
  · simp [h]
theorem jc4 {b : Int32} (h0 : 0 ≤ b.toInt) (h1 : b.toInt ≤ 3) : b = 0 ∨ b = 1 ∨ b = 2 ∨ b = 3 := by
  have h : b.toInt = 0 ∨ b.toInt = 1 ∨ b.toInt = 2 ∨ b.toInt = 3 := by omega
  rcases h with h | h | h | h
  · exact Or.inl (Int32.toInt_inj.mp (by rw [h]; decide))
  · exact Or.inr (Or.inl (Int32.toInt_inj.mp (by rw [h]; decide)))
  · exact Or.inr (Or.inr (Or.inl (Int32.toInt_inj.mp (by rw [h]; decide))))
  · exact Or.inr (Or.inr (Or.inr (Int32.toInt_inj.mp (by rw [h]; decide))))
theorem jLf_Wl {a b b' v : Int32} (h0 : 0 ≤ b.toInt) (h1 : b.toInt ≤ 3) (k0 : 0 ≤ b'.toInt) (k1 : b'.toInt ≤ 3) (hn : b ≠ b') : jLf (jWl a b v) b' = jLf a b' := by
  rcases jc4 h0 h1 with rfl | rfl | rfl | rfl <;> rcases jc4 k0 k1 with rfl | rfl | rfl | rfl
  all_goals first | exact absurd rfl hn | skip
  · exact jbq (jget_put a.toBitVec v.toBitVec 11 15 4 4 (by decide) (by decide) (by decide) (by decide) (by decide))
  · exact jbq (jget_put a.toBitVec v.toBitVec 11 19 4 4 (by decide) (by decide) (by decide) (by decide) (by decide))
  · exact jbq (jget_put a.toBitVec v.toBitVec 11 23 4 4 (by decide) (by decide) (by decide) (by decide) (by decide))
  · exact jbq (jget_put a.toBitVec v.toBitVec 15 11 4 4 (by decide) (by decide) (by decide) (by decide) (by decide))
  · exact jbq (jget_put a.toBitVec v.toBitVec 15 19 4 4 (by decide) (by decide) (by decide) (by decide) (by decide))
  · exact jbq (jget_put a.toBitVec v.toBitVec 15 23 4 4 (by decide) (by decide) (by decide) (by decide) (by decide))
  · exact jbq (jget_put a.toBitVec v.toBitVec 19 11 4 4 (by decide) (by decide) (by decide) (by decide) (by decide))
  · exact jbq (jget_put a.toBitVec v.toBitVec 19 15 4 4 (by decide) (by decide) (by decide) (by decide) (by decide))
  · exact jbq (jget_put a.toBitVec v.toBitVec 19 23 4 4 (by decide) (by decide) (by decide) (by decide) (by decide))
  · exact jbq (jget_put a.toBitVec v.toBitVec 23 11 4 4 (by decide) (by decide) (by decide) (by decide) (by decide))
  · exact jbq (jget_put a.toBitVec v.toBitVec 23 15 4 4 (by decide) (by decide) (by decide) (by decide) (by decide))
  · exact jbq (jget_put a.toBitVec v.toBitVec 23 19 4 4 (by decide) (by decide) (by decide) (by decide) (by decide))
theorem jLf_Wl_s {a b v : Int32} (h0 : 0 ≤ b.toInt) (h1 : b.toInt ≤ 3) : jLf (jWl a b v) b = v &&& 15 := by
  rcases jc4 h0 h1 with rfl | rfl | rfl | rfl
  · exact jbq (jget_same a.toBitVec v.toBitVec 11 4 (by decide) (by decide))
  · exact jbq (jget_same a.toBitVec v.toBitVec 15 4 (by decide) (by decide))
  · exact jbq (jget_same a.toBitVec v.toBitVec 19 4 (by decide) (by decide))
  · exact jbq (jget_same a.toBitVec v.toBitVec 23 4 (by decide) (by decide))
theorem jSt_Ws_s {a b v : Int32} (h0 : 0 ≤ b.toInt) (h1 : b.toInt ≤ 3) : jSt (jWs a b v) b = v &&& 3 := by
  rcases jc4 h0 h1 with rfl | rfl | rfl | rfl
  · exact jbq (jget_same a.toBitVec v.toBitVec 3 2 (by decide) (by decide))
  · exact jbq (jget_same a.toBitVec v.toBitVec 5 2 (by decide) (by decide))
  · exact jbq (jget_same a.toBitVec v.toBitVec 7 2 (by decide) (by decide))
  · exact jbq (jget_same a.toBitVec v.toBitVec 9 2 (by decide) (by decide))
theorem jSt_Ws {a b b' v : Int32} (h0 : 0 ≤ b.toInt) (h1 : b.toInt ≤ 3) (k0 : 0 ≤ b'.toInt) (k1 : b'.toInt ≤ 3) (hn : b ≠ b') : jSt (jWs a b v) b' = jSt a b' := by
  rcases jc4 h0 h1 with rfl | rfl | rfl | rfl <;> rcases jc4 k0 k1 with rfl | rfl | rfl | rfl
  all_goals first | exact absurd rfl hn | skip
  · exact jbq (jget_put a.toBitVec v.toBitVec 3 5 2 2 (by decide) (by decide) (by decide) (by decide) (by decide))
  · exact jbq (jget_put a.toBitVec v.toBitVec 3 7 2 2 (by decide) (by decide) (by decide) (by decide) (by decide))
  · exact jbq (jget_put a.toBitVec v.toBitVec 3 9 2 2 (by decide) (by decide) (by decide) (by decide) (by decide))
  · exact jbq (jget_put a.toBitVec v.toBitVec 5 3 2 2 (by decide) (by decide) (by decide) (by decide) (by decide))
  · exact jbq (jget_put a.toBitVec v.toBitVec 5 7 2 2 (by decide) (by decide) (by decide) (by decide) (by decide))
  · exact jbq (jget_put a.toBitVec v.toBitVec 5 9 2 2 (by decide) (by decide) (by decide) (by decide) (by decide))
  · exact jbq (jget_put a.toBitVec v.toBitVec 7 3 2 2 (by decide) (by decide) (by decide) (by decide) (by decide))
  · exact jbq (jget_put a.toBitVec v.toBitVec 7 5 2 2 (by decide) (by decide) (by decide) (by decide) (by decide))
  · exact jbq (jget_put a.toBitVec v.toBitVec 7 9 2 2 (by decide) (by decide) (by decide) (by decide) (by decide))
  · exact jbq (jget_put a.toBitVec v.toBitVec 9 3 2 2 (by decide) (by decide) (by decide) (by decide) (by decide))
  · exact jbq (jget_put a.toBitVec v.toBitVec 9 5 2 2 (by decide) (by decide) (by decide) (by decide) (by decide))
  · exact jbq (jget_put a.toBitVec v.toBitVec 9 7 2 2 (by decide) (by decide) (by decide) (by decide) (by decide))
theorem jLf_Ws {a b b' v : Int32} (h0 : 0 ≤ b.toInt) (h1 : b.toInt ≤ 3) (k0 : 0 ≤ b'.toInt) (k1 : b'.toInt ≤ 3) : jLf (jWs a b v) b' = jLf a b' := by
  rcases jc4 h0 h1 with rfl | rfl | rfl | rfl <;> rcases jc4 k0 k1 with rfl | rfl | rfl | rfl
  · exact jbq (jget_put a.toBitVec v.toBitVec 3 11 2 4 (by decide) (by decide) (by decide) (by decide) (by decide))
  · exact jbq (jget_put a.toBitVec v.toBitVec 3 15 2 4 (by decide) (by decide) (by decide) (by decide) (by decide))
  · exact jbq (jget_put a.toBitVec v.toBitVec 3 19 2 4 (by decide) (by decide) (by decide) (by decide) (by decide))
  · exact jbq (jget_put a.toBitVec v.toBitVec 3 23 2 4 (by decide) (by decide) (by decide) (by decide) (by decide))
  · exact jbq (jget_put a.toBitVec v.toBitVec 5 11 2 4 (by decide) (by decide) (by decide) (by decide) (by decide))
  · exact jbq (jget_put a.toBitVec v.toBitVec 5 15 2 4 (by decide) (by decide) (by decide) (by decide) (by decide))
  · exact jbq (jget_put a.toBitVec v.toBitVec 5 19 2 4 (by decide) (by decide) (by decide) (by decide) (by decide))
  · exact jbq (jget_put a.toBitVec v.toBitVec 5 23 2 4 (by decide) (by decide) (by decide) (by decide) (by decide))
  · exact jbq (jget_put a.toBitVec v.toBitVec 7 11 2 4 (by decide) (by decide) (by decide) (by decide) (by decide))
  · exact jbq (jget_put a.toBitVec v.toBitVec 7 15 2 4 (by decide) (by decide) (by decide) (by decide) (by decide))
  · exact jbq (jget_put a.toBitVec v.toBitVec 7 19 2 4 (by decide) (by decide) (by decide) (by decide) (by decide))
  · exact jbq (jget_put a.toBitVec v.toBitVec 7 23 2 4 (by decide) (by decide) (by decide) (by decide) (by decide))
  · exact jbq (jget_put a.toBitVec v.toBitVec 9 11 2 4 (by decide) (by decide) (by decide) (by decide) (by decide))
  · exact jbq (jget_put a.toBitVec v.toBitVec 9 15 2 4 (by decide) (by decide) (by decide) (by decide) (by decide))
  · exact jbq (jget_put a.toBitVec v.toBitVec 9 19 2 4 (by decide) (by decide) (by decide) (by decide) (by decide))
  · exact jbq (jget_put a.toBitVec v.toBitVec 9 23 2 4 (by decide) (by decide) (by decide) (by decide) (by decide))
theorem jLa_Wl {a b v : Int32} (h0 : 0 ≤ b.toInt) (h1 : b.toInt ≤ 3) : jLa (jWl a b v) = jLa a := by
  rcases jc4 h0 h1 with rfl | rfl | rfl | rfl
  · exact jbq (jget_put0 a.toBitVec v.toBitVec 11 4 (by decide) (by decide))
  · exact jbq (jget_put0 a.toBitVec v.toBitVec 15 4 (by decide) (by decide))
  · exact jbq (jget_put0 a.toBitVec v.toBitVec 19 4 (by decide) (by decide))
  · exact jbq (jget_put0 a.toBitVec v.toBitVec 23 4 (by decide) (by decide))
theorem jLa_Ws {a b v : Int32} (h0 : 0 ≤ b.toInt) (h1 : b.toInt ≤ 3) : jLa (jWs a b v) = jLa a := by
  rcases jc4 h0 h1 with rfl | rfl | rfl | rfl
  · exact jbq (jget_put0 a.toBitVec v.toBitVec 3 2 (by decide) (by decide))
  · exact jbq (jget_put0 a.toBitVec v.toBitVec 5 2 (by decide) (by decide))
  · exact jbq (jget_put0 a.toBitVec v.toBitVec 7 2 (by decide) (by decide))
  · exact jbq (jget_put0 a.toBitVec v.toBitVec 9 2 (by decide) (by decide))
/-- who bowled last is set -/
def jWa (a n : Int32) : Int32 := (a &&& (-8)) ||| n
theorem jLa_Wa {a n : Int32} (h0 : 0 ≤ n.toInt) (h1 : n.toInt ≤ 4) : jLa (jWa a n) = n := by
  have h : n.toInt = 0 ∨ n.toInt = 1 ∨ n.toInt = 2 ∨ n.toInt = 3 ∨ n.toInt = 4 := by omega
  rcases h with h | h | h | h | h
  · rw [show n = 0 from Int32.toInt_inj.mp (by rw [h]; decide)]; exact jbq (jla_bits a.toBitVec 0#32 (by decide))
  · rw [show n = 1 from Int32.toInt_inj.mp (by rw [h]; decide)]; exact jbq (jla_bits a.toBitVec 1#32 (by decide))
  · rw [show n = 2 from Int32.toInt_inj.mp (by rw [h]; decide)]; exact jbq (jla_bits a.toBitVec 2#32 (by decide))
  · rw [show n = 3 from Int32.toInt_inj.mp (by rw [h]; decide)]; exact jbq (jla_bits a.toBitVec 3#32 (by decide))
  · rw [show n = 4 from Int32.toInt_inj.mp (by rw [h]; decide)]; exact jbq (jla_bits a.toBitVec 4#32 (by decide))
theorem jLf_Wa {a n b : Int32} (h0 : 0 ≤ n.toInt) (h1 : n.toInt ≤ 4) (k0 : 0 ≤ b.toInt) (k1 : b.toInt ≤ 3) : jLf (jWa a n) b = jLf a b := by
  have hn : n.toBitVec &&& 7#32 = n.toBitVec := by
    have h : n.toInt = 0 ∨ n.toInt = 1 ∨ n.toInt = 2 ∨ n.toInt = 3 ∨ n.toInt = 4 := by omega
    rcases h with h | h | h | h | h
    · rw [show n = 0 from Int32.toInt_inj.mp (by rw [h]; decide)]; decide
    · rw [show n = 1 from Int32.toInt_inj.mp (by rw [h]; decide)]; decide
    · rw [show n = 2 from Int32.toInt_inj.mp (by rw [h]; decide)]; decide
    · rw [show n = 3 from Int32.toInt_inj.mp (by rw [h]; decide)]; decide
    · rw [show n = 4 from Int32.toInt_inj.mp (by rw [h]; decide)]; decide
  rcases jc4 k0 k1 with rfl | rfl | rfl | rfl
  · exact jbq (jwa_bits a.toBitVec n.toBitVec 11 4 (by decide) (by decide) (by decide) hn)
  · exact jbq (jwa_bits a.toBitVec n.toBitVec 15 4 (by decide) (by decide) (by decide) hn)
  · exact jbq (jwa_bits a.toBitVec n.toBitVec 19 4 (by decide) (by decide) (by decide) hn)
  · exact jbq (jwa_bits a.toBitVec n.toBitVec 23 4 (by decide) (by decide) (by decide) hn)
theorem jand15 {v : Int32} (h0 : 0 ≤ v.toInt) (h1 : v.toInt ≤ 15) : v &&& 15 = v := by
  have h : v.toInt = 0 ∨ v.toInt = 1 ∨ v.toInt = 2 ∨ v.toInt = 3 ∨ v.toInt = 4 ∨ v.toInt = 5 ∨ v.toInt = 6 ∨ v.toInt = 7 ∨ v.toInt = 8 ∨ v.toInt = 9 ∨ v.toInt = 10 ∨ v.toInt = 11 ∨ v.toInt = 12 ∨ v.toInt = 13 ∨ v.toInt = 14 ∨ v.toInt = 15 := by omega
  have e : ∀ k : Int32, v.toInt = k.toInt → k &&& 15 = k → v &&& 15 = v := fun k hk h => by rw [Int32.toInt_inj.mp hk]; exact h
  rcases h with h | h | h | h | h | h | h | h | h | h | h | h | h | h | h | h
  · exact e 0 (by rw [h]; decide) (by decide)
  · exact e 1 (by rw [h]; decide) (by decide)
  · exact e 2 (by rw [h]; decide) (by decide)
  · exact e 3 (by rw [h]; decide) (by decide)
  · exact e 4 (by rw [h]; decide) (by decide)
  · exact e 5 (by rw [h]; decide) (by decide)
  · exact e 6 (by rw [h]; decide) (by decide)
  · exact e 7 (by rw [h]; decide) (by decide)
  · exact e 8 (by rw [h]; decide) (by decide)
  · exact e 9 (by rw [h]; decide) (by decide)
  · exact e 10 (by rw [h]; decide) (by decide)
  · exact e 11 (by rw [h]; decide) (by decide)
  · exact e 12 (by rw [h]; decide) (by decide)
  · exact e 13 (by rw [h]; decide) (by decide)
  · exact e 14 (by rw [h]; decide) (by decide)
  · exact e 15 (by rw [h]; decide) (by decide)
/-! the book: who may bowl next -/
def jmx (x : Int) : Int := if x < 0 then 0 else x
def jcn (f : Nat → Int32) (b : Int32) : Nat → Nat
  | 0 => 0
  | n + 1 => jcn f b n + (if f n = b then 1 else 0)
theorem jcn_le (f : Nat → Int32) (b : Int32) : ∀ n : Nat, jcn f b n ≤ n
  | 0 => Nat.le_refl 0
  | n + 1 => by
    have := jcn_le f b n
    show jcn f b n + (if f n = b then 1 else 0) ≤ n + 1
    split <;> omega
theorem jcn_cong {f g : Nat → Int32} {b : Int32} : ∀ n : Nat, (∀ k : Nat, k < n → f k = g k) → jcn f b n = jcn g b n
  | 0, _ => rfl
  | n + 1, h => by
    show jcn f b n + (if f n = b then 1 else 0) = jcn g b n + (if g n = b then 1 else 0)
    rw [jcn_cong n (fun k hk => h k (by omega)), h n (by omega)]
theorem jcnt_cong {f g : Nat → Int32} : ∀ n : Nat, (∀ k : Nat, k < n → f k = g k) → jcnt f n = jcnt g n
  | 0, _ => rfl
  | n + 1, h => by
    show jcnt f n + (if f n = 1 then 1 else 0) = jcnt g n + (if g n = 1 then 1 else 0)
    rw [jcnt_cong n (fun k hk => h k (by omega)), h n (by omega)]
theorem jcnt_add {g : Nat → Int32} {K : Int} (h0 : 0 ≤ K) (h : 0 ≤ (g K.toNat).toInt ∧ (g K.toNat).toInt ≤ 1) : (jcnt g (K + 1).toNat : Int) = (jcnt g K.toNat : Int) + (g K.toNat).toInt := by
  have e1 : (K + 1).toNat = K.toNat + 1 := by omega
  rw [e1]; show ((jcnt g K.toNat + (if g K.toNat = 1 then 1 else 0) : Nat) : Int) = _
  by_cases q : g K.toNat = 1
  · rw [if_pos q, q]; rfl
  · rw [if_neg q]
    have : (g K.toNat).toInt = 0 := by
      have q2 : (g K.toNat).toInt ≠ 1 := fun w => q (Int32.toInt_inj.mp (by rw [w]; decide))
      omega
    rw [this]; omega
/-- numbers of OVERS are small -/
def jOk (t : Nat → Int32) : Prop := ∀ j : Nat, j < 4 → 0 ≤ (t (32 + j)).toInt ∧ (t (32 + j)).toInt ≤ 8
def jOx (t : Nat → Int32) (B : Int) (b : Int32) : Int := if b.toInt < B then (t (32 + b.toInt).toNat).toInt else 0
/-- what an attack says of an over more -/
def jAf (a b r : Int32) : Prop := (∀ c : Int32, 0 ≤ c.toInt → c.toInt ≤ 3 → (jLf r c).toInt = if c = b then jmx ((jLf a c).toInt - 1) else (jLf a c).toInt) ∧ (jLa r).toInt = b.toInt + 1
def jAl (a b x : Int32) : Prop := (∀ c : Int32, 0 ≤ c.toInt → c.toInt ≤ 3 → jLf x c = jLf a c) ∧ (jLa x).toInt = b.toInt + 1
theorem jAl.first {a b n x : Int32} (e : x = jWa a n) (hn : n.toInt = b.toInt + 1) (h0 : 0 ≤ b.toInt) (h1 : b.toInt ≤ 3) : jAl a b x := by
  subst e
  exact ⟨fun c c0 c1 => jLf_Wa (by omega) (by omega) c0 c1, by rw [jLa_Wa (by omega) (by omega)]; exact hn⟩
theorem jAl.step {a b x y c s : Int32} (h : jAl a b x) (e : y = jWs x c s) (h0 : 0 ≤ c.toInt) (h1 : c.toInt ≤ 3) : jAl a b y := by
  subst e
  exact ⟨fun d d0 d1 => by rw [jLf_Ws h0 h1 d0 d1]; exact h.1 d d0 d1, by rw [jLa_Ws h0 h1]; exact h.2⟩
theorem jAl.fin {a b x r v : Int32} (h : jAl a b x) (e : r = jWl x b v) (h0 : 0 ≤ b.toInt) (h1 : b.toInt ≤ 3) (hv : v.toInt = jmx ((jLf a b).toInt - 1)) (hl : (jLf a b).toInt ≤ 15) : jAf a b r := by
  subst e
  have hv2 : 0 ≤ v.toInt ∧ v.toInt ≤ 15 := by rw [hv]; unfold jmx; split <;> omega
  refine ⟨fun c c0 c1 => ?_, by rw [jLa_Wl h0 h1]; exact h.2⟩
  by_cases q : c = b
  · subst q; rw [if_pos rfl, jLf_Wl_s h0 h1, jand15 hv2.1 hv2.2]; exact hv
  · rw [if_neg q, jLf_Wl h0 h1 c0 c1 (fun w => q w.symm), h.1 c c0 c1]
def jAk (f t : Nat → Int32) (B n : Int) (r : Int32) : Prop := (∀ b : Int32, 0 ≤ b.toInt → b.toInt ≤ 3 → (jLf r b).toInt = jmx (jOx t B b - (jcn f b n.toNat : Int))) ∧ (jLa r).toInt = if n ≤ 0 then 0 else (f (n - 1).toNat).toInt + 1
theorem jAk.step {f t : Nat → Int32} {B n n' : Int} {a b r : Int32} (h : jAk f t B n a) (e : jAf a b r) (hb : b = f n.toNat) (h0 : 0 ≤ n) (hn : n' = n + 1) : jAk f t B n' r := by
  subst hn
  have e1 : (n + 1).toNat = n.toNat + 1 := by omega
  refine ⟨fun c c0 c1 => ?_, ?_⟩
  · rw [e.1 c c0 c1, h.1 c c0 c1, e1]
    show _ = jmx (jOx t B c - ((jcn f c n.toNat + (if f n.toNat = c then 1 else 0) : Nat) : Int))
    by_cases q : c = b
    · rw [if_pos q, if_pos (by rw [q, hb])]; unfold jmx; (repeat' split) <;> omega
    · rw [if_neg q, if_neg (fun w => q (by rw [hb, w]))]; rfl
  · rw [e.2, if_neg (by omega), show n + 1 - 1 = n by omega, hb]
/-- a fresh attack, so far -/
def jAz (t : Nat → Int32) (k : Int) (r : Int32) : Prop := (∀ b : Int32, 0 ≤ b.toInt → b.toInt ≤ 3 → (jLf r b).toInt = jOx t k b) ∧ (jLa r).toInt = 0
theorem jAz.first {t : Nat → Int32} {k : Int} (h : k ≤ 0) : jAz t k 0 := by
  refine ⟨fun b b0 b1 => ?_, by decide⟩
  unfold jOx; rw [if_neg (by omega)]
  rcases jc4 b0 b1 with rfl | rfl | rfl | rfl <;> decide
theorem jAz.step {t : Nat → Int32} {k k' : Int} {a b r v : Int32} (h : jAz t k a) (e : r = jWl a b v) (hb : b.toInt = k) (h0 : 0 ≤ k) (h1 : k ≤ 3) (hv : v = t (32 + k).toNat) (ok : jOk t) (hk : k' = k + 1) : jAz t k' r := by
  subst e hk
  have o := ok k.toNat (by omega)
  have e1 : (32 + k).toNat = 32 + k.toNat := by omega
  refine ⟨fun c c0 c1 => ?_, by rw [jLa_Wl (by omega) (by omega)]; exact h.2⟩
  by_cases q : c = b
  · subst q
    rw [jLf_Wl_s (by omega) (by omega), jand15 (by rw [hv, e1]; omega) (by rw [hv, e1]; omega), hv]
    unfold jOx; rw [if_pos (by omega), hb]
  · rw [jLf_Wl (by omega) (by omega) c0 c1 (fun w => q w.symm), h.1 c c0 c1]
    have q2 : c.toInt ≠ k := fun w => q (Int32.toInt_inj.mp (by omega))
    unfold jOx
    by_cases z : c.toInt < k
    · rw [if_pos z, if_pos (by omega)]
    · rw [if_neg z, if_neg (by omega)]
theorem jAz.k {f t : Nat → Int32} {B n : Int} {r : Int32} (h : jAz t B r) (ok : jOk t) (hn : n ≤ 0) : jAk f t B n r := by
  have e : n.toNat = 0 := by omega
  refine ⟨fun b b0 b1 => ?_, by rw [if_pos hn]; exact h.2⟩
  rw [h.1 b b0 b1, e]
  show _ = jmx (jOx t B b - ((0 : Nat) : Int))
  have o : 0 ≤ jOx t B b := by
    unfold jOx
    split
    · have o := ok b.toInt.toNat (by omega)
      rw [show (32 + b.toInt).toNat = 32 + b.toInt.toNat by omega]; exact o.1
    · omega
  unfold jmx; rw [if_neg (by omega)]; omega
/-- one may bowl behind n overs -/
def jCan (f t : Nat → Int32) (B n : Int) (b : Int32) : Prop := (0 ≤ b.toInt ∧ b.toInt ≤ 3) ∧ 0 < jOx t B b - (jcn f b n.toNat : Int) ∧ (n ≤ 0 ∨ f (n - 1).toNat ≠ b)
def jMy (f g t : Nat → Int32) (B n M T : Int) (b : Int32) : Prop := (jcnt g n.toNat : Int) < M ∧ n < T ∧ jCan f t B n b
theorem jAk.can {f t : Nat → Int32} {B n : Int} {r b : Int32} (h : jAk f t B n r) (b0 : 0 ≤ b.toInt) (b1 : b.toInt ≤ 3) : jCan f t B n b ↔ (0 < (jLf r b).toInt ∧ (jLa r).toInt - 1 ≠ b.toInt) := by
  rw [h.1 b b0 b1, h.2]
  unfold jCan
  constructor
  · rintro ⟨_, q1, q2⟩
    refine ⟨by unfold jmx; rw [if_neg (by omega)]; exact q1, ?_⟩
    by_cases z : n ≤ 0
    · rw [if_pos z]; omega
    · rw [if_neg z]
      rcases q2 with q2 | q2
      · exact absurd q2 z
      · intro w; exact q2 (Int32.toInt_inj.mp (by omega))
  · rintro ⟨q1, q2⟩
    refine ⟨⟨b0, b1⟩, ?_, ?_⟩
    · unfold jmx at q1; split at q1 <;> omega
    · by_cases z : n ≤ 0
      · exact Or.inl z
      · rw [if_neg z] at q2
        exact Or.inr (fun w => q2 (by rw [w]; omega))
theorem jMy.cong {f g t f' g' t' : Nat → Int32} {B n M T : Int} {b : Int32} (h : jMy f g t B n M T b) (e1 : ∀ k : Nat, (k : Int) < n → f k = f' k ∧ g k = g' k) (e2 : ∀ j : Nat, j < 4 → t (32 + j) = t' (32 + j)) : jMy f' g' t' B n M T b := by
  obtain ⟨a1, a2, a3, a4, a5⟩ := h
  refine ⟨?_, a2, a3, ?_, ?_⟩
  · rw [← jcnt_cong n.toNat (fun k hk => (e1 k (by omega)).2)]; exact a1
  · rw [← jcn_cong n.toNat (fun k hk => (e1 k (by omega)).1)]
    have e : jOx t' B b = jOx t B b := by
      unfold jOx
      rw [show (32 + b.toInt).toNat = 32 + b.toInt.toNat by omega, e2 _ (by omega)]
    rw [e]; exact a4
  · rcases a5 with a5 | a5
    · exact Or.inl a5
    · by_cases z : n ≤ 0
      · exact Or.inl z
      · exact Or.inr (by rw [← (e1 (n - 1).toNat (by omega)).1]; exact a5)
theorem jLf_r (a b : Int32) : 0 ≤ (jLf a b).toInt ∧ (jLf a b).toInt ≤ 15 := jmask (x := jLf a b) rfl 4 (by decide) (by decide)
def jMb (a b : Int32) : Prop := (0 ≤ b.toInt ∧ b.toInt ≤ 3) ∧ 0 < (jLf a b).toInt ∧ (jLa a).toInt - 1 ≠ b.toInt
theorem jAk.mb {f t : Nat → Int32} {B n : Int} {r b : Int32} (h : jAk f t B n r) : jCan f t B n b ↔ jMb r b := by
  constructor
  · intro q; exact ⟨q.1, (h.can q.1.1 q.1.2).mp q⟩
  · intro q; exact (h.can q.1.1 q.1.2).mpr q.2
/-- the reference's walk through a book of n overs -/
def jRb (f w : Nat → Int32) (n last : Int) : Prop := (∀ b : Int32, 0 ≤ b.toInt → b.toInt ≤ 3 → (w b.toInt.toNat).toInt = (jcn f b n.toNat : Int)) ∧ last = if n ≤ 0 then -1 else (f (n - 1).toNat).toInt
theorem jRb.first {f w : Nat → Int32} {n last : Int} (h : ∀ j : Nat, (j : Int) < 4 → w j = 0) (hn : n ≤ 0) (hl : last = -1) : jRb f w n last := by
  have e : n.toNat = 0 := by omega
  refine ⟨fun b b0 b1 => ?_, by rw [if_pos hn]; exact hl⟩
  rw [h b.toInt.toNat (by omega), e]; rfl
theorem jRb.step {f w w' : Nat → Int32} {n n' last last' : Int} {b : Int32} (h : jRb f w n last) (e : w' = jupd w b.toNatClampNeg (w b.toNatClampNeg + 1)) (hb : b = f n.toNat) (h0 : 0 ≤ n) (h12 : n ≤ 12) (b0 : 0 ≤ b.toInt) (b1 : b.toInt ≤ 3) (hl : last' = b.toInt) (hn : n' = n + 1) : jRb f w' n' last' := by
  subst hn e
  rw [jnc (rfl : b.toInt = b.toInt)]
  have e1 : (n + 1).toNat = n.toNat + 1 := by omega
  refine ⟨fun c c0 c1 => ?_, by rw [if_neg (by omega), show n + 1 - 1 = n by omega, ← hb]; exact hl⟩
  rw [e1]
  show _ = ((jcn f c n.toNat + (if f n.toNat = c then 1 else 0) : Nat) : Int)
  have hc := h.1 c c0 c1
  have hle := jcn_le f c n.toNat
  unfold jupd
  by_cases q : c = b
  · subst q
    rw [if_pos rfl, if_pos hb.symm]
    have := (jadd (x := w c.toInt.toNat + 1) rfl hc (show (1 : Int32).toInt = 1 by decide) (by omega) (by omega))
    rw [this]; omega
  · have q2 : c.toInt ≠ b.toInt := fun z => q (Int32.toInt_inj.mp z)
    rw [if_neg (by omega), if_neg (fun z => q (by rw [hb, z])), hc]; rfl
theorem jRb.can {σ : Nat → Nat → Int32} {f t : Nat → Int32} {B n : Int} {b : Int32} (h : jRb f (σ 69) n (σ 55 27).toInt) (b0 : 0 ≤ b.toInt) (b1 : b.toInt ≤ 3) (hB : b.toInt < B) (w : (σ 55 30).toInt = -1) (o : (σ 55 31).toInt = -1) (ht : t = σ 56) (ok : jOk t) (hn : n ≤ 12) : jmb σ b = 1 ↔ jCan f t B n b := by
  subst ht
  have hb := h.1 b b0 b1
  have ok1 := ok b.toInt.toNat (by omega)
  have hle := jcn_le f b n.toNat
  have n30 : ¬ b = σ 55 30 := fun q => by rw [q] at b0; omega
  have n31 : ¬ b = σ 55 31 := fun q => by rw [q] at b0; omega
  have e32 : (32 + b).toInt = 32 + b.toInt := jadd (x := 32 + b) rfl (show (32 : Int32).toInt = 32 by decide) rfl (by omega) (by omega)
  have em : σ 56 (32 + b).toNatClampNeg = σ 56 (32 + b.toInt.toNat) := by rw [jnc e32]; congr 1; omega
  have el : (jleft σ b).toInt = (σ 56 (32 + b.toInt.toNat)).toInt - (jcn f b n.toNat : Int) := by
    unfold jleft
    rw [if_neg n30, if_neg n31, em, jnc (rfl : b.toInt = b.toInt)]
    exact jsub rfl rfl hb (by omega) (by omega)
  have ex : jOx (σ 56) B b = (σ 56 (32 + b.toInt.toNat)).toInt := by
    unfold jOx; rw [if_pos hB]; congr 2; omega
  unfold jCan jmb
  rw [ex]
  have hl := h.2
  constructor
  · intro q
    by_cases c1 : b = σ 55 27
    · rw [if_pos c1] at q; exact absurd q (by decide)
    rw [if_neg c1] at q
    by_cases c2 : jleft σ b ≤ 0
    · rw [if_pos c2] at q; exact absurd q (by decide)
    have c3 := jnle c2 el (show (0 : Int32).toInt = 0 by decide)
    refine ⟨⟨b0, b1⟩, by omega, ?_⟩
    by_cases z : n ≤ 0
    · exact Or.inl z
    · rw [if_neg z] at hl
      exact Or.inr (fun e => c1 (Int32.toInt_inj.mp (by rw [hl, e])))
  · rintro ⟨_, q2, q3⟩
    have c1 : ¬ b = σ 55 27 := by
      intro e
      rw [← e] at hl
      by_cases z : n ≤ 0
      · rw [if_pos z] at hl; omega
      · rw [if_neg z] at hl
        rcases q3 with q3 | q3
        · exact z q3
        · exact q3 (Int32.toInt_inj.mp hl.symm)
    have c2 : ¬ jleft σ b ≤ 0 := fun e => by
      have := jle e el (show (0 : Int32).toInt = 0 by decide)
      omega
    rw [if_neg c1, if_neg c2]
/-- a call of book: what it answers and does -/
def jBo (ok may : Prop) (r n n' : Int) (b o : Int32) (f f' g g' : Nat → Int32) : Prop :=
  (r = -1 ∧ ¬ ok ∧ n' = n ∧ f' = f ∧ g' = g) ∨ (r = -5 ∧ ok ∧ ¬ may ∧ n' = n ∧ f' = f ∧ g' = g) ∨ (r = n' ∧ ok ∧ may ∧ n' = n + 1 ∧ f' = jupd f n.toNat b ∧ g' = jupd g n.toNat o)
def jBk (f f2 g g2 : Nat → Int32) (n : Int) : Prop := ∀ k : Nat, (k : Int) < n → f k = f2 k ∧ g k = g2 k
theorem jBk.bo {ok may ok2 may2 : Prop} {r r2 n n' n2' : Int} {b o : Int32} {f f' g g' f2 f2' g2 g2' : Nat → Int32} (h : jBk f f2 g g2 n) (h0 : 0 ≤ n) (a : jBo ok may r n n' b o f f' g g') (c : jBo ok2 may2 r2 n n2' b o f2 f2' g2 g2') (e1 : ok ↔ ok2) (e2 : ok → (may ↔ may2)) : r = r2 ∧ n' = n2' ∧ jBk f' f2' g' g2' n' := by
  rcases a with ⟨a1, a2, a3, a4, a5⟩ | ⟨a1, a2, a3, a4, a5, a6⟩ | ⟨a1, a2, a3, a4, a5, a6⟩ <;> rcases c with ⟨c1, c2, c3, c4, c5⟩ | ⟨c1, c2, c3, c4, c5, c6⟩ | ⟨c1, c2, c3, c4, c5, c6⟩
  · subst a4 a5 c4 c5; exact ⟨by omega, by omega, by rw [a3]; exact h⟩
  · exact absurd (e1.mpr c2) a2
  · exact absurd (e1.mpr c2) a2
  · exact absurd (e1.mp a2) c2
  · subst a5 a6 c5 c6; exact ⟨by omega, by omega, by rw [a4]; exact h⟩
  · exact absurd ((e2 a2).mpr c3) a3
  · exact absurd (e1.mp a2) c2
  · exact absurd ((e2 a2).mp a3) c3
  · subst a5 a6 c5 c6
    refine ⟨by omega, by omega, fun k hk => ?_⟩
    unfold jupd
    by_cases e : k = n.toNat
    · rw [if_pos e, if_pos e, if_pos e, if_pos e]; exact ⟨rfl, rfl⟩
    · rw [if_neg e, if_neg e, if_neg e, if_neg e]; exact h k (by omega)
def jZr (f : Nat → Int32) (m : Int) : Prop := ∀ j : Nat, (j : Int) < m → f j = 0
theorem jZr.first {f : Nat → Int32} {m : Int} (h : m ≤ 0) : jZr f m := fun j hj => absurd hj (by omega)
theorem jZr.step {f f' : Nat → Int32} {m m' x : Int} (h : jZr f m) (h0 : 0 ≤ m) (e : f' = jupd f x.toNat 0) (hx : x = m) (hm : m' = m + 1) : jZr f' m' := by
  subst e hx
  intro j hj
  unfold jupd
  by_cases q : j = x.toNat
  · rw [if_pos q]
  · rw [if_neg q]; exact h j (by omega)
/-- numbers of OVERS stay small, and so in the log -/
def jOvP (m p b a : Nat → Int32) (n : Int) : Prop := jOk m ∧ ∀ k : Nat, (k : Int) < n → 32 ≤ (p k).toInt → (p k).toInt ≤ 35 → (0 ≤ (b k).toInt ∧ (b k).toInt ≤ 8) ∧ 0 ≤ (a k).toInt ∧ (a k).toInt ≤ 8
theorem jOvP.put {m m' p b a : Nat → Int32} {n q : Int} {v : Int32} (h : jOvP m p b a n) (e : m' = jupd m q.toNat v) (h0 : 0 ≤ q) (hv : 32 ≤ q → q ≤ 35 → 0 ≤ v.toInt ∧ v.toInt ≤ 8) : jOvP m' p b a n := by
  subst e
  refine ⟨fun j hj => ?_, h.2⟩
  unfold jupd
  by_cases e : 32 + j = q.toNat
  · rw [if_pos e]; exact hv (by omega) (by omega)
  · rw [if_neg e]; exact h.1 j hj
theorem jOvP.back {m m' p b a : Nat → Int32} {n d : Int} (h : jOvP m p b a n) (h0 : 0 ≤ d) (h1 : d < n) (hp : 0 ≤ (p d.toNat).toInt) (e : m' = jupd m (p d.toNat).toInt.toNat (b d.toNat)) : jOvP m' p b a n := h.put e hp (fun q r => (h.2 d.toNat (by omega) q r).1)
theorem jOvP.forth {m m' p b a : Nat → Int32} {n d : Int} (h : jOvP m p b a n) (h0 : 0 ≤ d) (h1 : d < n) (hp : 0 ≤ (p d.toNat).toInt) (e : m' = jupd m (p d.toNat).toInt.toNat (a d.toNat)) : jOvP m' p b a n := h.put e hp (fun q r => (h.2 d.toNat (by omega) q r).2)
theorem jOvP.chg {m m' p p' b b' a a' : Nat → Int32} {n n' d d' q : Int} {v r : Int32} (h : jOvP m p b a n) (c : jChg q v r m m' p p' b b' a a' d d' n n') (h0 : 0 ≤ q) (hd : 0 ≤ d ∧ d ≤ n) (hv : 32 ≤ q → q ≤ 35 → 0 ≤ v.toInt ∧ v.toInt ≤ 8) : jOvP m' p' b' a' n' := by
  obtain ⟨er, c⟩ := c
  rcases c with ⟨_, e1, e2, e3, e4, e5, e6⟩ | ⟨_, e1, e2, p1, b1, a1, z, e3, e4, e5, e6, e7⟩
  · subst e1 e2 e3 e4 e6; exact h
  · refine ⟨(h.put e2 h0 hv).1, fun k hk k0 k1 => ?_⟩
    rw [e5] at k0 k1
    rw [e6, e7]
    unfold jupd at k0 k1 ⊢
    by_cases e : k = (d' - 1).toNat
    · rw [if_pos e] at k0 k1
      rw [if_pos e, if_pos e]
      refine ⟨?_, hv (by omega) (by omega)⟩
      have o := h.1 (q.toNat - 32) (by omega)
      rw [show 32 + (q.toNat - 32) = q.toNat by omega, ← er] at o; exact o
    · rw [if_neg e] at k0 k1
      rw [if_neg e, if_neg e]
      rcases e4 with ⟨x1, x2, x3, x4, x5⟩ | ⟨x1, x2, x3, x4, x5⟩
      · subst x3 x4 x5; exact h.2 k (by omega) k0 k1
      · have hk9 : k < 39 := by omega
        rw [x3 k hk9] at k0 k1
        rw [x4 k hk9, x5 k hk9]; exact h.2 (k + 1) (by omega) k0 k1
theorem jOvP.bowler {m m' p b a : Nat → Int32} {n B : Int} {v : Int32} (h : jOvP m p b a n) (e : m' = jupd m (32 + B).toNat v) (h0 : 0 ≤ B) (hv : 0 ≤ v.toInt ∧ v.toInt ≤ 8) : jOvP m' p b a n := h.put e (by omega) (fun _ _ => hv)
theorem jNumP.ok {t m p p2 b b2 a a2 : Nat → Int32} {B n : Int} (h : jNumP t m p p2 b b2 a a2 B n) (o : jOk m) : jOk t := fun j hj => by rw [h.1 (32 + j) (by omega) (Or.inr (by omega))]; exact o j hj
/-- a book read from a row: el its elements, L how many there are -/
def jBp (el : Nat → Int64) (L B M T : Int) (t f g : Nat → Int32) (k : Nat) : Prop := (k : Int) < L ∧ (0 ≤ (el k).toInt ∧ (el k).toInt < 20) ∧ (el k).toInt % 10 < B ∧ (f k).toInt = (el k).toInt % 10 ∧ (g k).toInt = (el k).toInt / 10 ∧ jMy f g t B k M T (f k)
def jBe (el : Nat → Int64) (L B M T : Int) (t f g : Nat → Int32) (k : Nat) : Prop := (k : Int) < L ∧ (0 ≤ (el k).toInt ∧ (el k).toInt < 20) ∧ (el k).toInt % 10 < B ∧ ∃ b : Int32, b.toInt = (el k).toInt % 10 ∧ jMy f g t B k M T b
def jBs (el : Nat → Int64) (L B M T : Int) (t f g : Nat → Int32) (J : Int) : Prop := 0 ≤ J ∧ (∀ k : Nat, (k : Int) < J → jBp el L B M T t f g k) ∧ ¬ jBe el L B M T t f g J.toNat
theorem jBs.rows {el el2 : Nat → Int64} {L B M T : Int} {t t2 f g f2 g2 : Nat → Int32} {k : Nat} (he : ∀ k : Nat, (k : Int) < L → el k = el2 k) (a : jBp el L B M T t f g k) (b : jBp el2 L B M T t2 f2 g2 k) : f k = f2 k ∧ g k = g2 k := by
  obtain ⟨a1, a2, a3, a4, a5, _⟩ := a
  obtain ⟨b1, b2, b3, b4, b5, _⟩ := b
  rw [← he k a1] at b4 b5
  exact ⟨Int32.toInt_inj.mp (by omega), Int32.toInt_inj.mp (by omega)⟩
theorem jBs.le {el el2 : Nat → Int64} {L B M T J J2 : Int} {t t2 f g f2 g2 : Nat → Int32} (he : ∀ k : Nat, (k : Int) < L → el k = el2 k) (ht : ∀ j : Nat, j < 4 → t (32 + j) = t2 (32 + j)) (a : jBs el L B M T t f g J) (b : jBs el2 L B M T t2 f2 g2 J2) : ¬ J < J2 := by
  intro h
  obtain ⟨a0, a1, a2⟩ := a
  obtain ⟨b0, b1, b2⟩ := b
  have p := b1 J.toNat (by omega)
  obtain ⟨p1, p2, p3, p4, p5, p6⟩ := p
  apply a2
  rw [← he J.toNat p1] at p2 p3 p4 p5
  refine ⟨p1, p2, p3, f2 J.toNat, p4, p6.cong (fun k hk => ?_) (fun j hj => (ht j hj).symm)⟩
  obtain ⟨x, y⟩ := jBs.rows he (a1 k (by omega)) (b1 k (by omega))
  exact ⟨x.symm, y.symm⟩
theorem jBs.det {el el2 : Nat → Int64} {L B M T J J2 : Int} {t t2 f g f2 g2 : Nat → Int32} (he : ∀ k : Nat, (k : Int) < L → el k = el2 k) (ht : ∀ j : Nat, j < 4 → t (32 + j) = t2 (32 + j)) (a : jBs el L B M T t f g J) (b : jBs el2 L B M T t2 f2 g2 J2) : J = J2 ∧ jBk f f2 g g2 J := by
  have h1 := jBs.le he ht a b
  have h2 := jBs.le (fun k hk => (he k hk).symm) (fun j hj => (ht j hj).symm) b a
  have e : J = J2 := by omega
  subst e
  exact ⟨rfl, fun k hk => jBs.rows he (a.2.1 k hk) (b.2.1 k hk)⟩
/-- so far -/
def jBf (el : Nat → Int64) (L B M T : Int) (t f g : Nat → Int32) (J : Int) : Prop := 0 ≤ J ∧ ∀ k : Nat, (k : Int) < J → jBp el L B M T t f g k
theorem jBf.first {el : Nat → Int64} {L B M T J : Int} {t f g : Nat → Int32} (h : J = 0) : jBf el L B M T t f g J := ⟨by omega, fun k hk => absurd hk (by omega)⟩
theorem jBf.step {el : Nat → Int64} {L B M T J J' : Int} {t f g f' g' : Nat → Int32} {b o : Int32} (h : jBf el L B M T t f g J) (e1 : f' = jupd f J.toNat b) (e2 : g' = jupd g J.toNat o) (h1 : J < L) (h2 : 0 ≤ (el J.toNat).toInt ∧ (el J.toNat).toInt < 20) (h3 : (el J.toNat).toInt % 10 < B) (hb : b.toInt = (el J.toNat).toInt % 10) (ho : o.toInt = (el J.toNat).toInt / 10) (hm : jMy f g t B J M T b) (hJ : J' = J + 1) : jBf el L B M T t f' g' J' := by
  subst e1 e2 hJ
  obtain ⟨h0, h⟩ := h
  have same : ∀ k : Nat, (k : Int) < J → f k = jupd f J.toNat b k ∧ g k = jupd g J.toNat o k := fun k hk => by
    unfold jupd; rw [if_neg (by omega), if_neg (by omega)]; exact ⟨rfl, rfl⟩
  refine ⟨by omega, fun k hk => ?_⟩
  by_cases e : (k : Int) < J
  · obtain ⟨p1, p2, p3, p4, p5, p6⟩ := h k e
    obtain ⟨s1, s2⟩ := same k e
    refine ⟨p1, p2, p3, by rw [← s1]; exact p4, by rw [← s2]; exact p5, ?_⟩
    rw [← s1]; exact p6.cong (fun j hj => same j (by omega)) (fun _ _ => rfl)
  · have ek : k = J.toNat := by omega
    subst ek
    have f1 : jupd f J.toNat b J.toNat = b := by unfold jupd; rw [if_pos rfl]
    have g1 : jupd g J.toNat o J.toNat = o := by unfold jupd; rw [if_pos rfl]
    refine ⟨by omega, h2, h3, by rw [f1]; exact hb, by rw [g1]; exact ho, ?_⟩
    rw [f1, show ((J.toNat : Nat) : Int) = J by omega]
    exact hm.cong (fun j hj => same j hj) (fun _ _ => rfl)
theorem jBf.stop {el : Nat → Int64} {L B M T J : Int} {t f g : Nat → Int32} (h : jBf el L B M T t f g J) (n : ¬ jBe el L B M T t f g J.toNat) : jBs el L B M T t f g J := ⟨h.1, h.2, n⟩
def jBb (c1 c2 : Prop) (r n n' : Int) (f f' g g' : Nat → Int32) (S : Prop) : Prop := (r = -1 ∧ c1 ∧ n' = n ∧ f' = f ∧ g' = g) ∨ (r = -12 ∧ ¬ c1 ∧ c2 ∧ n' = n ∧ f' = f ∧ g' = g) ∨ (¬ c1 ∧ ¬ c2 ∧ r = n' ∧ S)
theorem jGt.get {c : Int} {q : Nat} {f : Nat → Int64} {r : Int64} (h : jGt c q f r) (e : c = 1) : r = f q := by
  rcases h with ⟨_, h⟩ | ⟨h, _⟩
  · exact h
  · exact absurd e h
theorem jBb.det {c1 c2 d1 d2 S S2 : Prop} {r r2 n n' n2' J : Int} {f f' g g' f2 f2' g2 g2' : Nat → Int32} (h : jBk f f2 g g2 n) (a : jBb c1 c2 r n n' f f' g g' S) (b : jBb d1 d2 r2 n n2' f2 f2' g2 g2' S2) (e1 : c1 ↔ d1) (e2 : ¬ c1 → (c2 ↔ d2)) (e3 : ¬ c1 → ¬ c2 → S → S2 → n' = n2' ∧ jBk f' f2' g' g2' n') (z : J = 0) : r = r2 ∧ n' = n2' ∧ jBk f' f2' g' g2' n' := by
  rcases a with ⟨a1, a2, a3, a4, a5⟩ | ⟨a1, a2, a3, a4, a5, a6⟩ | ⟨a1, a2, a3, a4⟩ <;> rcases b with ⟨b1, b2, b3, b4, b5⟩ | ⟨b1, b2, b3, b4, b5, b6⟩ | ⟨b1, b2, b3, b4⟩
  · subst a4 a5 b4 b5; exact ⟨by omega, by omega, by rw [a3]; exact h⟩
  · exact absurd (e1.mp a2) b2
  · exact absurd (e1.mp a2) b1
  · exact absurd (e1.mpr b2) a2
  · subst a5 a6 b5 b6; exact ⟨by omega, by omega, by rw [a4]; exact h⟩
  · exact absurd ((e2 a2).mp a3) b2
  · exact absurd (e1.mpr b2) a1
  · exact absurd ((e2 a1).mpr b3) a2
  · obtain ⟨x, y⟩ := e3 a1 a2 a4 b4
    exact ⟨by omega, x, y⟩
theorem jBk.nil {f f2 g g2 : Nat → Int32} {n : Int} (h : n ≤ 0) : jBk f f2 g g2 n := fun k hk => absurd hk (by omega)
theorem jMy.iff {f g t f' g' t' : Nat → Int32} {B n M T : Int} {b : Int32} (e1 : ∀ k : Nat, (k : Int) < n → f k = f' k ∧ g k = g' k) (e2 : ∀ j : Nat, j < 4 → t (32 + j) = t' (32 + j)) : jMy f g t B n M T b ↔ jMy f' g' t' B n M T b :=
  ⟨fun h => h.cong e1 e2, fun h => h.cong (fun k hk => ⟨(e1 k hk).1.symm, (e1 k hk).2.symm⟩) (fun j hj => (e2 j hj).symm)⟩
theorem jNumP.t4 {t m p p2 b b2 a a2 : Nat → Int32} {B n : Int} (h : jNumP t m p p2 b b2 a a2 B n) : ∀ j : Nat, j < 4 → t (32 + j) = m (32 + j) := fun j hj => h.1 (32 + j) (by omega) (Or.inr (by omega))
/-- elements of rows of bytes are bytes -/
def jByP (so le : Nat → Int32) (f : Nat → Int64) : Prop := ∀ d : Nat, d < 6 → (so d).toInt = 0 → ∀ i : Nat, (i : Int) < (le d).toInt → -128 ≤ (f (60 * d + i)).toInt ∧ (f (60 * d + i)).toInt ≤ 127
theorem jByP.keep {so le so' le' : Nat → Int32} {f : Nat → Int64} {d : Nat} {a x : Int32} (h : jByP so le f) (e1 : so' = jupd so d a) (e2 : le' = jupd le d x) (ha : a.toInt < 0) : jByP so' le' f := by
  subst e1 e2
  intro k hk h0 i hi
  unfold jupd at h0 hi
  by_cases e : k = d
  · rw [if_pos e] at h0; exact absurd h0 (by omega)
  · rw [if_neg e] at h0 hi; exact h k hk h0 i hi
theorem jByP.row {so le so' le' : Nat → Int32} {f f' : Nat → Int64} {d q1 : Nat} {a x : Int32} {n : Int} (h : jByP so le f) (hl : ∀ k : Nat, k < 6 → 0 ≤ (le k).toInt ∧ (le k).toInt ≤ 60) (e1 : so' = jupd so d a) (e2 : le' = jupd le d x) (u : jFl f f' q1 n) (eq1 : q1 = 60 * d) (hx : x.toInt ≤ n) (hn : n ≤ 60) : jByP so' le' f' := by
  subst e1 e2 eq1
  intro k hk h0 i hi
  unfold jupd at h0 hi
  by_cases e : k = d
  · subst e
    rw [if_pos rfl] at h0 hi
    rw [u.1 i (by omega)]; decide
  · rw [if_neg e] at h0 hi
    have := hl k hk
    rw [u.2 _ (by omega)]; exact h k hk h0 i hi
theorem jcut0 (v : Int64) : -128 ≤ (jCut 0 v).toInt ∧ (jCut 0 v).toInt ≤ 127 := by
  unfold jCut; rw [if_pos rfl]
  have h1 := Int8.le_toInt (v.toInt32.toInt8)
  have h2 := Int8.toInt_lt (v.toInt32.toInt8)
  have e : (v.toInt32.toInt8.toInt32.toInt64).toInt = v.toInt32.toInt8.toInt := by
    rw [Int32.toInt_toInt64, Int8.toInt_toInt32]
  rw [e]; omega
theorem jByP.put {so le : Nat → Int32} {f f' : Nat → Int64} {c d i : Int} {q : Nat} {s : Int} {v : Int64} (h : jByP so le f) (hl : ∀ k : Nat, k < 6 → 0 ≤ (le k).toInt ∧ (le k).toInt ≤ 60) (u : jPt c q (jCut s v) f f') (eq : q = (60 * d + i).toNat) (ok : c = 1 → (0 ≤ d ∧ d ≤ 5) ∧ 0 ≤ i ∧ i < (le d.toNat).toInt ∧ s = (so d.toNat).toInt) : jByP so le f' := by
  subst eq
  intro k hk h0 m hm
  rcases u with ⟨u1, u2⟩ | ⟨u1, u2⟩
  · obtain ⟨o1, o2, o3, o4⟩ := ok u1
    subst u2
    have l1 := hl k hk
    have l2 := hl d.toNat (by omega)
    unfold vp_updL
    by_cases e : 60 * k + m = (60 * d + i).toNat
    · rw [if_pos e]
      have ek : d.toNat = k := by omega
      rw [ek, h0] at o4
      rw [o4]; exact jcut0 v
    · rw [if_neg e]; exact h k hk h0 m hm
  · subst u2; exact h k hk h0 m hm
theorem jByP.move {so le : Nat → Int32} {f f' : Nat → Int64} {c n : Int} {q1 q2 : Nat} {d i e j : Int} (h : jByP so le f) (hl : ∀ k : Nat, k < 6 → 0 ≤ (le k).toInt ∧ (le k).toInt ≤ 60) (u : jMvL c q1 q2 n f f') (b1 : q1 = (60 * d + i).toNat) (b2 : q2 = (60 * e + j).toNat)
    (ok : 0 ≤ c → 0 ≤ n ∧ (0 ≤ d ∧ d < 6) ∧ (0 ≤ e ∧ e < 6) ∧ 0 ≤ i ∧ 0 ≤ j ∧ 0 ≤ (so d.toNat).toInt ∧ i + n ≤ (le d.toNat).toInt ∧ j + n ≤ (le e.toNat).toInt) (hs : 0 ≤ c → (so d.toNat).toInt = (so e.toNat).toInt) : jByP so le f' := by
  intro k hk h0 m hm
  rcases u with ⟨u1, u2, u3⟩ | ⟨u1, u2⟩
  · obtain ⟨o1, o2, o3, o4, o5, o6, o7, o8⟩ := ok u1
    have l1 := hl d.toNat (by omega)
    have l2 := hl e.toNat (by omega)
    have l3 := hl k hk
    by_cases hp : 60 * k + m < q2 ∨ (q2 : Int) + n ≤ (60 * k + m : Nat)
    · rw [u3 _ hp]; exact h k hk h0 m hm
    · have e9 : 60 * k + m = q2 + (60 * k + m - q2) := by omega
      rw [e9, u2 _ (by omega)]
      have e8 : q1 + (60 * k + m - q2) = 60 * d.toNat + (i.toNat + (60 * k + m - q2)) := by omega
      rw [e8]
      have ek : k = e.toNat := by omega
      refine h d.toNat (by omega) ?_ _ (by omega)
      rw [hs u1, ← ek]; exact h0
  · subst u2; exact h k hk h0 m hm
theorem jShP.mvs {so le ru sh ma : Nat → Int32} {n : Int} (h : jShP so le ru sh ma n) {d e : Int32} {i j k c : Int} (q : c = jSf d.toInt i e.toInt j k (so d.toNatClampNeg).toInt (so e.toNatClampNeg).toInt (le d.toNatClampNeg).toInt (le e.toNatClampNeg).toInt) (hc : 0 ≤ c) : (so d.toInt.toNat).toInt = (so e.toInt.toNat).toInt := by
  unfold jSf at q
  by_cases hd : d.toInt < 0 ∨ 5 < d.toInt ∨ e.toInt < 0 ∨ 5 < e.toInt
  · rw [if_pos hd] at q; exact absurd hc (by omega)
  rw [if_neg hd] at q
  rw [jnc (rfl : d.toInt = d.toInt), jnc (rfl : e.toInt = e.toInt)] at q
  by_cases c1 : (so d.toInt.toNat).toInt = -2 ∨ (so e.toInt.toNat).toInt = -2
  · rw [if_pos c1] at q; exact absurd hc (by omega)
  rw [if_neg c1] at q
  by_cases c2 : (so d.toInt.toNat).toInt = -1 ∨ (so d.toInt.toNat).toInt ≠ (so e.toInt.toNat).toInt
  · rw [if_pos c2] at q; exact absurd hc (by omega)
  omega

def jActV (k a : Int) (x r : Int32) : Int32 := if k = 0 then (if a = 0 then (x + r) else if a = 1 then ((x + r) * 2) else if a = 2 then (x ^^^ r) else if a = 3 then (((x + r) * 2) - (1 ^^^ r)) else 0) else if k = 1 then (if a = 0 then ((x + r) + 3) else if a = 1 then (((x + r) + 3) * 2) else if a = 2 then (x ^^^ r) else if a = 3 then ((((x + r) + 3) * 2) - (1 ^^^ r)) else 0) else if k = 2 then (if a = 0 then (x + r) else if a = 1 then ((x + r) * 2) else if a = 2 then ((x ^^^ r) * 3) else if a = 3 then (((x + r) * 2) - ((1 ^^^ r) * 3)) else 0) else if k = 3 then (if a = 0 then (x + r) else if a = 1 then (-((x + r) * 2)) else if a = 2 then ((x ^^^ r) * 3) else if a = 3 then ((-((x + r) * 2)) - ((1 ^^^ r) * 3)) else 0) else if k = 4 then (if a = 0 then (((x + 1) + r) + 3) else if a = 1 then ((((x + 1) + r) + 3) * 2) else if a = 2 then (x ^^^ r) else if a = 3 then ((((((x + 1) + r) + 3) * 2) - (1 ^^^ r)) ^^^ 5) else 0) else if k = 5 then (if a = 0 then (x + r) else if a = 1 then (-((x + r) * 2)) else if a = 2 then (((x ^^^ r) * 3) - (2 + r)) else if a = 3 then ((-((x + r) * 2)) - (((1 ^^^ r) * 3) - (2 + r))) else 0) else if k = 6 then (if a = 0 then (x + r) else if a = 1 then (((x + r) * 2) + (1 ^^^ r)) else if a = 2 then (x ^^^ r) else if a = 3 then ((((x + r) * 2) + (1 ^^^ r)) - (1 ^^^ r)) else 0) else 0
def jTl (k a : Int) : List Int32 := if k = 0 then (if a = 0 then [1] else if a = 1 then [10, 1] else if a = 2 then [11] else if a = 3 then [2, 10, 1, 11] else []) else if k = 1 then (if a = 0 then [20, 1] else if a = 1 then [10, 20, 1] else if a = 2 then [11] else if a = 3 then [2, 10, 20, 1, 11] else []) else if k = 2 then (if a = 0 then [1] else if a = 1 then [10, 1] else if a = 2 then [30, 11] else if a = 3 then [2, 10, 1, 30, 11] else []) else if k = 3 then (if a = 0 then [1] else if a = 1 then [40, 10, 1] else if a = 2 then [30, 11] else if a = 3 then [2, 40, 10, 1, 30, 11] else []) else if k = 4 then (if a = 0 then [50, 20, 1] else if a = 1 then [10, 50, 20, 1] else if a = 2 then [11] else if a = 3 then [51, 2, 10, 50, 20, 1, 11] else []) else if k = 5 then (if a = 0 then [1] else if a = 1 then [40, 10, 1] else if a = 2 then [60, 30, 11, 1] else if a = 3 then [2, 40, 10, 1, 60, 30, 11, 1] else []) else if k = 6 then (if a = 0 then [1] else if a = 1 then [70, 10, 1, 11] else if a = 2 then [11] else if a = 3 then [2, 70, 10, 1, 11, 11] else []) else []
def jTr : List Int32 → Nat → (Nat → Int32) → Prop
  | [], _, _ => True
  | b :: l, j, g => g j = b ∧ jTr l (j + 1) g
def jTrc (k a : Int) (g : Nat → Int32) (n : Int) : Prop := n = ((jTl k a).length : Int) ∧ jTr (jTl k a) 0 g
def jTt (f g : Nat → Int32) (n : Int) : Prop := ∀ j : Nat, (j : Int) < n → f j = g j
theorem jTr_eq {f g : Nat → Int32} : ∀ (l : List Int32) (j : Nat), jTr l j f → jTr l j g → ∀ k : Nat, j ≤ k → k < j + l.length → f k = g k
  | [], j, _, _, k, h1, h2 => absurd h2 (by show ¬ k < j + 0; omega)
  | b :: l, j, h, h', k, h1, h2 => by
    by_cases e : k = j
    · rw [e, h.1, h'.1]
    · exact jTr_eq l (j + 1) h.2 h'.2 k (by omega) (by have h3 : k < j + (l.length + 1) := h2; omega)
theorem jTrc.tt {k a n n' : Int} {f g : Nat → Int32} (h : jTrc k a f n) (h' : jTrc k a g n') : jTt f g n' ∧ n = n' := by
  obtain ⟨a1, a2⟩ := h
  obtain ⟨b1, b2⟩ := h'
  refine ⟨fun j hj => jTr_eq _ 0 a2 b2 j (Nat.zero_le j) (by omega), by omega⟩
theorem jTt.nil {f g : Nat → Int32} {n : Int} (h : n ≤ 0) : jTt f g n := fun j hj => absurd hj (by omega)
theorem jushr8 {x a : Int32} (e : x = (a.toUInt32 >>> (Int32.toUInt32 8 &&& Int32.toUInt32 31)).toInt32) : 0 ≤ x.toInt ∧ x.toInt ≤ 16777215 := jushr (y := 8) (n := 8) (by decide) (by decide) e (by decide)
theorem jushr20 {x a : Int32} (e : x = (a.toUInt32 >>> (Int32.toUInt32 20 &&& Int32.toUInt32 31)).toInt32) : 0 ≤ x.toInt ∧ x.toInt ≤ 4095 := jushr (y := 20) (n := 20) (by decide) (by decide) e (by decide)
theorem jushr22 {x a : Int32} (e : x = (a.toUInt32 >>> (Int32.toUInt32 22 &&& Int32.toUInt32 31)).toInt32) : 0 ≤ x.toInt ∧ x.toInt ≤ 1023 := jushr (y := 22) (n := 22) (by decide) (by decide) e (by decide)
theorem jz_m1640531527 : ((-1640531527) : Int32).toInt = -1640531527 := by decide
theorem jz_m8 : ((-8) : Int32).toInt = -8 := by decide
theorem jz_999 : (999 : Int32).toInt = 999 := by decide
theorem jz_12345 : (12345 : Int32).toInt = 12345 := by decide
theorem jz_20033 : (20033 : Int32).toInt = 20033 := by decide
theorem jz_20059 : (20059 : Int32).toInt = 20059 := by decide
theorem jz_20063 : (20063 : Int32).toInt = 20063 := by decide
theorem jz_20126 : (20126 : Int32).toInt = 20126 := by decide
theorem jz_1103515245 : (1103515245 : Int32).toInt = 1103515245 := by decide
theorem jzl_m9223372036854775808 : ((-9223372036854775808) : Int64).toInt = -9223372036854775808 := by decide
def jI2 (σ : Nat → Nat → Int32) : Prop := (0 ≤ (σ 2 0).toInt ∧ (σ 2 0).toInt ≤ 4) ∧ (0 ≤ (σ 2 1).toInt ∧ (σ 2 1).toInt ≤ 3) ∧ (0 ≤ (σ 2 2).toInt) ∧ (0 ≤ (σ 2 3).toInt) ∧ ((σ 2 2).toInt + (σ 2 3).toInt ≤ 40) ∧ (∀ k : Nat, k < 40 → 0 ≤ (σ 6 k).toInt ∧ (σ 6 k).toInt ≤ 67)
theorem jI2_fr {σ σ' : Nat → Nat → Int32} (f2_0 : σ' 2 0 = σ 2 0) (f2_1 : σ' 2 1 = σ 2 1) (f2_2 : σ' 2 2 = σ 2 2) (f2_3 : σ' 2 3 = σ 2 3) (r6 : σ' 6 = σ 6) (h : jI2 σ) : jI2 σ' := by
  unfold jI2 at *; rw [f2_0, f2_1, f2_2, f2_3, r6]; exact h
def jI9 (σ : Nat → Nat → Int32) : Prop := (0 ≤ (σ 9 0).toInt ∧ (σ 9 0).toInt ≤ 80) ∧ (∀ k : Nat, k < 80 → 0 ≤ (σ 10 k).toInt ∧ (σ 10 k).toInt ≤ 255) ∧ (∀ k : Nat, k < 8 → 0 ≤ (σ 11 k).toInt ∧ (σ 11 k).toInt ≤ 3)
theorem jI9_fr {σ σ' : Nat → Nat → Int32} (f9_0 : σ' 9 0 = σ 9 0) (r10 : σ' 10 = σ 10) (r11 : σ' 11 = σ 11) (h : jI9 σ) : jI9 σ' := by
  unfold jI9 at *; rw [f9_0, r10, r11]; exact h
def jI12 (σ : Nat → Nat → Int32) : Prop := (0 ≤ (σ 12 0).toInt ∧ (σ 12 0).toInt ≤ 160) ∧ (∀ k : Nat, k < 160 → 0 ≤ (σ 13 k).toInt ∧ (σ 13 k).toInt ≤ 30000)
theorem jI12_fr {σ σ' : Nat → Nat → Int32} (f12_0 : σ' 12 0 = σ 12 0) (r13 : σ' 13 = σ 13) (h : jI12 σ) : jI12 σ' := by
  unfold jI12 at *; rw [f12_0, r13]; exact h
def jI16 (σ : Nat → Nat → Int32) : Prop := (1 ≤ (σ 16 0).toInt ∧ (σ 16 0).toInt ≤ 8) ∧ (1 ≤ (σ 16 1).toInt ∧ (σ 16 1).toInt ≤ 12) ∧ (0 ≤ (σ 16 2).toInt ∧ (σ 16 2).toInt ≤ 999) ∧ (∀ k : Nat, k < 8 → 0 ≤ (σ 17 k).toInt ∧ (σ 17 k).toInt ≤ 3)
theorem jI16_fr {σ σ' : Nat → Nat → Int32} (f16_0 : σ' 16 0 = σ 16 0) (f16_1 : σ' 16 1 = σ 16 1) (f16_2 : σ' 16 2 = σ 16 2) (r17 : σ' 17 = σ 17) (h : jI16 σ) : jI16 σ' := by
  unfold jI16 at *; rw [f16_0, f16_1, f16_2, r17]; exact h
def jI18 (σ : Nat → Nat → Int32) : Prop := (0 ≤ (σ 18 0).toInt ∧ (σ 18 0).toInt ≤ 160) ∧ (∀ k : Nat, k < 160 → 0 ≤ (σ 19 k).toInt ∧ (σ 19 k).toInt ≤ 30000)
theorem jI18_fr {σ σ' : Nat → Nat → Int32} (f18_0 : σ' 18 0 = σ 18 0) (r19 : σ' 19 = σ 19) (h : jI18 σ) : jI18 σ' := by
  unfold jI18 at *; rw [f18_0, r19]; exact h
def jI22 (σ : Nat → Nat → Int32) : Prop := (0 ≤ (σ 22 0).toInt ∧ (σ 22 0).toInt ≤ 160) ∧ (∀ k : Nat, k < 160 → 0 ≤ (σ 23 k).toInt ∧ (σ 23 k).toInt ≤ 30000)
theorem jI22_fr {σ σ' : Nat → Nat → Int32} (f22_0 : σ' 22 0 = σ 22 0) (r23 : σ' 23 = σ 23) (h : jI22 σ) : jI22 σ' := by
  unfold jI22 at *; rw [f22_0, r23]; exact h
def jI31 (σ : Nat → Nat → Int32) : Prop := (0 ≤ (σ 31 8).toInt ∧ (σ 31 8).toInt ≤ 350) ∧ (∀ k : Nat, k < 1400 → (-1) ≤ (σ 33 k).toInt ∧ (σ 33 k).toInt ≤ 350) ∧ (∀ k : Nat, k < 1024 → 0 ≤ (σ 36 k).toInt ∧ (σ 36 k).toInt ≤ 349)
theorem jI31_fr {σ σ' : Nat → Nat → Int32} (f31_8 : σ' 31 8 = σ 31 8) (r33 : σ' 33 = σ 33) (r36 : σ' 36 = σ 36) (h : jI31 σ) : jI31 σ' := by
  unfold jI31 at *; rw [f31_8, r33, r36]; exact h
def jI38 (σ : Nat → Nat → Int32) : Prop := (0 ≤ (σ 38 0).toInt ∧ (σ 38 0).toInt ≤ 20) ∧ (0 ≤ (σ 38 1).toInt ∧ (σ 38 1).toInt ≤ 1000) ∧ (∀ k : Nat, k < 20 → 0 ≤ (σ 39 k).toInt ∧ (σ 39 k).toInt ≤ 6)
theorem jI38_fr {σ σ' : Nat → Nat → Int32} (f38_0 : σ' 38 0 = σ 38 0) (f38_1 : σ' 38 1 = σ 38 1) (r39 : σ' 39 = σ 39) (h : jI38 σ) : jI38 σ' := by
  unfold jI38 at *; rw [f38_0, f38_1, r39]; exact h
def jI43 (σ : Nat → Nat → Int32) : Prop := (0 ≤ (σ 43 8).toInt ∧ (σ 43 8).toInt ≤ 8)
theorem jI43_fr {σ σ' : Nat → Nat → Int32} (f43_8 : σ' 43 8 = σ 43 8) (h : jI43 σ) : jI43 σ' := by
  unfold jI43 at *; rw [f43_8]; exact h
def jI47 (σ : Nat → Nat → Int32) : Prop := (0 ≤ (σ 47 0).toInt ∧ (σ 47 0).toInt ≤ 12) ∧ (∀ k : Nat, k < 12 → 0 ≤ (σ 48 k).toInt ∧ (σ 48 k).toInt ≤ 3) ∧ (∀ k : Nat, k < 12 → 0 ≤ (σ 49 k).toInt ∧ (σ 49 k).toInt ≤ 1)
theorem jI47_fr {σ σ' : Nat → Nat → Int32} (f47_0 : σ' 47 0 = σ 47 0) (r48 : σ' 48 = σ 48) (r49 : σ' 49 = σ 49) (h : jI47 σ) : jI47 σ' := by
  unfold jI47 at *; rw [f47_0, r48, r49]; exact h
def jI50 (σ : Nat → Nat → Int32) : Prop := (∀ k : Nat, k < 6 → 0 ≤ (σ 52 k).toInt ∧ (σ 52 k).toInt ≤ 60)
theorem jI50_fr {σ σ' : Nat → Nat → Int32} (r52 : σ' 52 = σ 52) (h : jI50 σ) : jI50 σ' := by
  unfold jI50 at *; rw [r52]; exact h
def jI91 (σ : Nat → Nat → Int32) : Prop := (0 ≤ (σ 9 1).toInt) ∧ ((σ 9 1).toInt ≤ (σ 9 0).toInt)
theorem jI91_fr {σ σ' : Nat → Nat → Int32} (f9_0 : σ' 9 0 = σ 9 0) (f9_1 : σ' 9 1 = σ 9 1) (h : jI91 σ) : jI91 σ' := by
  unfold jI91 at *; rw [f9_0, f9_1]; exact h
def jI92 (σ : Nat → Nat → Int32) : Prop := ((-1) ≤ (σ 9 2).toInt)
theorem jI92_fr {σ σ' : Nat → Nat → Int32} (f9_2 : σ' 9 2 = σ 9 2) (h : jI92 σ) : jI92 σ' := by
  unfold jI92 at *; rw [f9_2]; exact h
def jI101 (σ : Nat → Nat → Int32) : Prop := (0 ≤ (σ 55 5).toInt) ∧ ((σ 55 5).toInt ≤ (σ 55 4).toInt) ∧ ((σ 55 4).toInt ≤ 40) ∧ (∀ k : Nat, k < 68 → (-200) ≤ (σ 56 k).toInt ∧ (σ 56 k).toInt ≤ 500) ∧ (∀ k : Nat, k < 40 → 0 ≤ (σ 57 k).toInt ∧ (σ 57 k).toInt ≤ 67) ∧ (∀ k : Nat, k < 40 → (-200) ≤ (σ 58 k).toInt ∧ (σ 58 k).toInt ≤ 500) ∧ (∀ k : Nat, k < 40 → (-200) ≤ (σ 59 k).toInt ∧ (σ 59 k).toInt ≤ 500)
theorem jI101_fr {σ σ' : Nat → Nat → Int32} (f55_4 : σ' 55 4 = σ 55 4) (f55_5 : σ' 55 5 = σ 55 5) (r56 : σ' 56 = σ 56) (r57 : σ' 57 = σ 57) (r58 : σ' 58 = σ 58) (r59 : σ' 59 = σ 59) (h : jI101 σ) : jI101 σ' := by
  unfold jI101 at *; rw [f55_4, f55_5, r56, r57, r58, r59]; exact h
def jI102 (σ : Nat → Nat → Int32) : Prop := (0 ≤ (σ 55 6).toInt ∧ (σ 55 6).toInt ≤ 4) ∧ (∀ k : Nat, k < 4 → 0 ≤ (σ 60 k).toInt ∧ (σ 60 k).toInt ≤ 50) ∧ (∀ k : Nat, k < 4 → 0 ≤ (σ 61 k).toInt ∧ (σ 61 k).toInt ≤ 20)
theorem jI102_fr {σ σ' : Nat → Nat → Int32} (f55_6 : σ' 55 6 = σ 55 6) (r60 : σ' 60 = σ 60) (r61 : σ' 61 = σ 61) (h : jI102 σ) : jI102 σ' := by
  unfold jI102 at *; rw [f55_6, r60, r61]; exact h
def jI103 (σ : Nat → Nat → Int32) : Prop := (0 ≤ (σ 55 9).toInt ∧ (σ 55 9).toInt ≤ 3)
theorem jI103_fr {σ σ' : Nat → Nat → Int32} (f55_9 : σ' 55 9 = σ 55 9) (h : jI103 σ) : jI103 σ' := by
  unfold jI103 at *; rw [f55_9]; exact h
def jI104 (σ : Nat → Nat → Int32) : Prop := (1 ≤ (σ 55 10).toInt ∧ (σ 55 10).toInt ≤ 8) ∧ (1 ≤ (σ 55 12).toInt ∧ (σ 55 12).toInt ≤ 12) ∧ (0 ≤ (σ 55 13).toInt ∧ (σ 55 13).toInt ≤ 999) ∧ (∀ k : Nat, k < 8 → 0 ≤ (σ 62 k).toInt ∧ (σ 62 k).toInt ≤ 3) ∧ (∀ k : Nat, k < 8 → 0 ≤ (σ 67 k).toInt ∧ (σ 67 k).toInt ≤ 3)
theorem jI104_fr {σ σ' : Nat → Nat → Int32} (f55_10 : σ' 55 10 = σ 55 10) (f55_12 : σ' 55 12 = σ 55 12) (f55_13 : σ' 55 13 = σ 55 13) (r62 : σ' 62 = σ 62) (r67 : σ' 67 = σ 67) (h : jI104 σ) : jI104 σ' := by
  unfold jI104 at *; rw [f55_10, f55_12, f55_13, r62, r67]; exact h
def jI105 (σ : Nat → Nat → Int32) : Prop := (0 ≤ (σ 55 15).toInt ∧ (σ 55 15).toInt ≤ 80) ∧ (∀ k : Nat, k < 2 → (-1) ≤ (σ 65 k).toInt ∧ (σ 65 k).toInt ≤ 80)
theorem jI105_fr {σ σ' : Nat → Nat → Int32} (f55_15 : σ' 55 15 = σ 55 15) (r65 : σ' 65 = σ 65) (h : jI105 σ) : jI105 σ' := by
  unfold jI105 at *; rw [f55_15, r65]; exact h
def jI106 (σ : Nat → Nat → Int32) : Prop := (0 ≤ (σ 55 32).toInt ∧ (σ 55 32).toInt ≤ 20) ∧ (∀ k : Nat, k < 20 → 0 ≤ (σ 70 k).toInt ∧ (σ 70 k).toInt ≤ 6) ∧ (∀ k : Nat, k < 20 → 0 ≤ (σ 71 k).toInt ∧ (σ 71 k).toInt ≤ 8) ∧ (∀ k : Nat, k < 160 → 0 ≤ (σ 72 k).toInt ∧ (σ 72 k).toInt ≤ 3)
theorem jI106_fr {σ σ' : Nat → Nat → Int32} (f55_32 : σ' 55 32 = σ 55 32) (r70 : σ' 70 = σ 70) (r71 : σ' 71 = σ 71) (r72 : σ' 72 = σ 72) (h : jI106 σ) : jI106 σ' := by
  unfold jI106 at *; rw [f55_32, r70, r71, r72]; exact h
def jI107 (σ : Nat → Nat → Int32) : Prop := (0 ≤ (σ 55 47).toInt ∧ (σ 55 47).toInt ≤ 12) ∧ ((σ 55 47).toInt ≤ (σ 55 12).toInt) ∧ (∀ k : Nat, k < 12 → 0 ≤ (σ 80 k).toInt ∧ (σ 80 k).toInt ≤ 3)
theorem jI107_fr {σ σ' : Nat → Nat → Int32} (f55_12 : σ' 55 12 = σ 55 12) (f55_47 : σ' 55 47 = σ 55 47) (r80 : σ' 80 = σ 80) (h : jI107 σ) : jI107 σ' := by
  unfold jI107 at *; rw [f55_12, f55_47, r80]; exact h
def jI109 (σ : Nat → Nat → Int32) : Prop := (0 ≤ (σ 55 50).toInt ∧ (σ 55 50).toInt ≤ 12)
theorem jI109_fr {σ σ' : Nat → Nat → Int32} (f55_50 : σ' 55 50 = σ 55 50) (h : jI109 σ) : jI109 σ' := by
  unfold jI109 at *; rw [f55_50]; exact h
def jI110 (σ : Nat → Nat → Int32) : Prop := (∀ k : Nat, k < 6 → (-1) ≤ (σ 86 k).toInt ∧ (σ 86 k).toInt ≤ 24) ∧ (∀ k : Nat, k < 6 → 0 ≤ (σ 87 k).toInt ∧ (σ 87 k).toInt ≤ 60)
theorem jI110_fr {σ σ' : Nat → Nat → Int32} (r86 : σ' 86 = σ 86) (r87 : σ' 87 = σ 87) (h : jI110 σ) : jI110 σ' := by
  unfold jI110 at *; rw [r86, r87]; exact h
def jI111 (σ : Nat → Nat → Int32) : Prop := (∀ k : Nat, k < 5 → 0 ≤ (σ 79 k).toInt ∧ (σ 79 k).toInt ≤ 3)
theorem jI111_fr {σ σ' : Nat → Nat → Int32} (r79 : σ' 79 = σ 79) (h : jI111 σ) : jI111 σ' := by
  unfold jI111 at *; rw [r79]; exact h
def jI120 (σ : Nat → Nat → Int32) : Prop := (0 ≤ (σ 55 25).toInt) ∧ ((σ 55 25).toInt ≤ (σ 55 10).toInt) ∧ (0 ≤ (σ 55 26).toInt) ∧ ((σ 55 26).toInt ≤ (σ 55 12).toInt) ∧ ((-1) ≤ (σ 55 27).toInt ∧ (σ 55 27).toInt ≤ 3) ∧ (∀ k : Nat, k < 4 → 0 ≤ (σ 68 k).toInt ∧ (σ 68 k).toInt ≤ 3)
theorem jI120_fr {σ σ' : Nat → Nat → Int32} (f55_10 : σ' 55 10 = σ 55 10) (f55_12 : σ' 55 12 = σ 55 12) (f55_25 : σ' 55 25 = σ 55 25) (f55_26 : σ' 55 26 = σ 55 26) (f55_27 : σ' 55 27 = σ 55 27) (r68 : σ' 68 = σ 68) (h : jI120 σ) : jI120 σ' := by
  unfold jI120 at *; rw [f55_10, f55_12, f55_25, f55_26, f55_27, r68]; exact h
def jI121 (σ : Nat → Nat → Int32) : Prop := ((-1) ≤ (σ 55 18).toInt ∧ (σ 55 18).toInt ≤ 80) ∧ (0 ≤ (σ 55 19).toInt) ∧ ((σ 55 19).toInt ≤ (σ 55 20).toInt) ∧ ((σ 55 20).toInt ≤ 80) ∧ ((-1) ≤ (σ 55 21).toInt)
theorem jI121_fr {σ σ' : Nat → Nat → Int32} (f55_18 : σ' 55 18 = σ 55 18) (f55_19 : σ' 55 19 = σ 55 19) (f55_20 : σ' 55 20 = σ 55 20) (f55_21 : σ' 55 21 = σ 55 21) (h : jI121 σ) : jI121 σ' := by
  unfold jI121 at *; rw [f55_18, f55_19, f55_20, f55_21]; exact h
def jI119 (σ : Nat → Nat → Int32) : Prop := (∀ k : Nat, k < 4 → 0 ≤ (σ 68 k).toInt ∧ (σ 68 k).toInt ≤ 3)
theorem jI119_fr {σ σ' : Nat → Nat → Int32} (r68 : σ' 68 = σ 68) (h : jI119 σ) : jI119 σ' := by
  unfold jI119 at *; rw [r68]; exact h
theorem imp_0 (i : Nat) (hi : (i < 2 ∨ 5 < i)) : i ≠ 2 := by omega
theorem imp_1 (i : Nat) (hi : (i < 2 ∨ 5 < i)) : i ≠ 3 := by omega
theorem imp_2 (i : Nat) (hi : (i < 2 ∨ 5 < i)) : i ≠ 5 := by omega
theorem imp_3 (i : Nat) (hi : (i < 2 ∨ 5 < i)) : i ≠ 4 := by omega
theorem imp_4 (i : Nat) (hi : (i < 0 ∨ 0 < i)) : i ≠ 0 := by omega
theorem imp_5 (i : Nat) (hi : (i < 2 ∨ 2 < i) ∧ (i < 6 ∨ 8 < i)) : i ≠ 2 := by omega
theorem imp_6 (i : Nat) (hi : (i < 2 ∨ 2 < i) ∧ (i < 6 ∨ 8 < i)) : (i < 6 ∨ 8 < i) := by omega
theorem imp_7 (i : Nat) (hi : (i < 2 ∨ 2 < i)) : i ≠ 2 := by omega
theorem imp_8 (i : Nat) (hi : (i < 6 ∨ 8 < i)) : i ≠ 8 := by omega
theorem imp_9 (i : Nat) (hi : (i < 6 ∨ 8 < i)) : i ≠ 7 := by omega
theorem imp_10 (i : Nat) (hi : (i < 6 ∨ 8 < i)) : i ≠ 6 := by omega
theorem imp_11 (i : Nat) (hi : (i < 2 ∨ 3 < i) ∧ (i < 6 ∨ 8 < i)) : i ≠ 3 := by omega
theorem imp_12 (i : Nat) (hi : (i < 2 ∨ 3 < i) ∧ (i < 6 ∨ 8 < i)) : i ≠ 2 := by omega
theorem imp_13 (i : Nat) (hi : (i < 2 ∨ 3 < i) ∧ (i < 6 ∨ 8 < i)) : i ≠ 8 := by omega
theorem imp_14 (i : Nat) (hi : (i < 2 ∨ 3 < i) ∧ (i < 6 ∨ 8 < i)) : i ≠ 7 := by omega
theorem imp_15 (i : Nat) (hi : (i < 2 ∨ 3 < i) ∧ (i < 6 ∨ 8 < i)) : i ≠ 6 := by omega
theorem imp_16 (i : Nat) (hi : (i < 2 ∨ 2 < i) ∧ (i < 3 ∨ 3 < i)) : i ≠ 3 := by omega
theorem imp_17 (i : Nat) (hi : (i < 2 ∨ 2 < i) ∧ (i < 3 ∨ 3 < i)) : i ≠ 2 := by omega
theorem imp_18 (i : Nat) (hi : (i < 2 ∨ 3 < i) ∧ (i < 6 ∨ 8 < i)) : (i < 2 ∨ 2 < i) ∧ (i < 6 ∨ 8 < i) := by omega
theorem imp_19 (i : Nat) (hi : (i < 2 ∨ 2 < i) ∧ (i < 3 ∨ 3 < i)) : (i < 2 ∨ 2 < i) := by omega
theorem imp_20 (i : Nat) (hi : (i < 2 ∨ 3 < i)) : i ≠ 3 := by omega
theorem imp_21 (i : Nat) (hi : (i < 2 ∨ 3 < i)) : i ≠ 2 := by omega
theorem imp_22 (i : Nat) (hi : (i < 12 ∨ 12 < i)) : i ≠ 12 := by omega
theorem imp_23 (i : Nat) (hi : (i < 0 ∨ 0 < i) ∧ (i < 1 ∨ 1 < i)) : i ≠ 1 := by omega
theorem imp_24 (i : Nat) (hi : (i < 0 ∨ 0 < i) ∧ (i < 1 ∨ 1 < i)) : i ≠ 0 := by omega
theorem imp_25 (i : Nat) (hi : (i < 12 ∨ 13 < i)) : i ≠ 13 := by omega
theorem imp_26 (i : Nat) (hi : (i < 12 ∨ 13 < i)) : i ≠ 12 := by omega
theorem imp_27 (i : Nat) (hi : (i < 18 ∨ 19 < i)) : (i < 19 ∨ 19 < i) := by omega
theorem imp_28 (i : Nat) (hi : (i < 18 ∨ 19 < i)) : i ≠ 18 := by omega
theorem imp_29 (i : Nat) (hi : (i < 20 ∨ 20 < i)) : i ≠ 20 := by omega
theorem imp_30 (i : Nat) (hi : (i < 22 ∨ 23 < i)) : (i < 23 ∨ 23 < i) := by omega
theorem imp_31 (i : Nat) (hi : (i < 22 ∨ 23 < i)) : i ≠ 22 := by omega
theorem imp_32 (i : Nat) (hi : (i < 24 ∨ 24 < i)) : i ≠ 24 := by omega
theorem imp_33 (i : Nat) (hi : (i < 21 ∨ 21 < i)) : i ≠ 21 := by omega
theorem imp_34 (i : Nat) (hi : (i < 25 ∨ 25 < i)) : i ≠ 25 := by omega
theorem imp_35 (i : Nat) (hi : (i < 9 ∨ 10 < i)) : i ≠ 10 := by omega
theorem imp_36 (i : Nat) (hi : (i < 9 ∨ 10 < i)) : i ≠ 9 := by omega
theorem imp_37 (i : Nat) (hi : (i < 9 ∨ 9 < i)) : i ≠ 9 := by omega
theorem imp_38 (i : Nat) (hi : (i < 1 ∨ 1 < i) ∧ (i < 2 ∨ 2 < i)) : i ≠ 2 := by omega
theorem imp_39 (i : Nat) (hi : (i < 1 ∨ 1 < i) ∧ (i < 2 ∨ 2 < i)) : i ≠ 1 := by omega
theorem imp_40 (i : Nat) (hi : (i < 0 ∨ 0 < i) ∧ (i < 2 ∨ 2 < i)) : i ≠ 0 := by omega
theorem imp_41 (i : Nat) (hi : (i < 0 ∨ 0 < i) ∧ (i < 2 ∨ 2 < i)) : i ≠ 2 := by omega
theorem imp_42 (i : Nat) (hi : (i < 1 ∨ 1 < i)) : i ≠ 1 := by omega
theorem imp_43 (i : Nat) (hi : (i < 1 ∨ 1 < i) ∧ (i < 2 ∨ 2 < i)) : (i < 2 ∨ 2 < i) := by omega
theorem imp_44 (i : Nat) (hi : (i < 9 ∨ 9 < i) ∧ (i < 11 ∨ 11 < i) ∧ (i < 16 ∨ 17 < i)) : (i < 17 ∨ 17 < i) := by omega
theorem imp_45 (i : Nat) (hi : (i < 9 ∨ 9 < i) ∧ (i < 11 ∨ 11 < i) ∧ (i < 16 ∨ 17 < i)) : i ≠ 16 := by omega
theorem imp_46 (i : Nat) (hi : (i < 9 ∨ 9 < i) ∧ (i < 11 ∨ 11 < i) ∧ (i < 16 ∨ 17 < i)) : (i < 9 ∨ 9 < i) := by omega
theorem imp_47 (i : Nat) (hi : (i < 9 ∨ 9 < i) ∧ (i < 11 ∨ 11 < i) ∧ (i < 16 ∨ 17 < i)) : (i < 9 ∨ 9 < i) ∧ (i < 11 ∨ 11 < i) := by omega
theorem imp_48 (i : Nat) (hi : (i < 0 ∨ 0 < i) ∧ (i < 1 ∨ 1 < i) ∧ (i < 2 ∨ 2 < i)) : (i < 0 ∨ 0 < i) ∧ (i < 2 ∨ 2 < i) := by omega
theorem imp_49 (i : Nat) (hi : (i < 0 ∨ 0 < i) ∧ (i < 1 ∨ 1 < i) ∧ (i < 2 ∨ 2 < i)) : (i < 1 ∨ 1 < i) ∧ (i < 2 ∨ 2 < i) := by omega
theorem imp_50 (i : Nat) (hi : (i < 0 ∨ 0 < i) ∧ (i < 1 ∨ 1 < i) ∧ (i < 2 ∨ 2 < i)) : (i < 2 ∨ 2 < i) := by omega
theorem imp_51 (i : Nat) (hi : (i < 0 ∨ 0 < i) ∧ (i < 1 ∨ 1 < i) ∧ (i < 2 ∨ 2 < i)) : (i < 1 ∨ 1 < i) := by omega
theorem imp_52 (i : Nat) (hi : (i < 0 ∨ 0 < i) ∧ (i < 1 ∨ 1 < i) ∧ (i < 2 ∨ 2 < i)) : i ≠ 2 := by omega
theorem imp_53 (i : Nat) (hi : (i < 0 ∨ 0 < i) ∧ (i < 1 ∨ 1 < i) ∧ (i < 2 ∨ 2 < i)) : i ≠ 1 := by omega
theorem imp_54 (i : Nat) (hi : (i < 0 ∨ 0 < i) ∧ (i < 1 ∨ 1 < i) ∧ (i < 2 ∨ 2 < i)) : i ≠ 0 := by omega
theorem imp_55 (i : Nat) (hi : (i < 1 ∨ 1 < i) ∧ (i < 2 ∨ 2 < i)) : (i < 1 ∨ 1 < i) := by omega
theorem imp_56 (i : Nat) (hi : (i < 9 ∨ 9 < i) ∧ (i < 11 ∨ 11 < i)) : i ≠ 11 := by omega
theorem imp_57 (i : Nat) (hi : (i < 9 ∨ 9 < i) ∧ (i < 11 ∨ 11 < i)) : i ≠ 9 := by omega
theorem imp_58 (i : Nat) (hi : (i < 9 ∨ 9 < i) ∧ (i < 12 ∨ 13 < i)) : (i < 12 ∨ 13 < i) := by omega
theorem imp_59 (i : Nat) (hi : (i < 9 ∨ 9 < i) ∧ (i < 12 ∨ 13 < i)) : (i < 9 ∨ 9 < i) := by omega
theorem imp_60 (i : Nat) (hi : (i < 9 ∨ 9 < i) ∧ (i < 12 ∨ 13 < i)) : i ≠ 9 := by omega
theorem imp_61 (i : Nat) (hi : (i < 9 ∨ 9 < i) ∧ (i < 12 ∨ 13 < i)) : i ≠ 13 := by omega
theorem imp_62 (i : Nat) (hi : (i < 9 ∨ 9 < i) ∧ (i < 12 ∨ 13 < i) ∧ (i < 18 ∨ 19 < i)) : (i < 18 ∨ 19 < i) := by omega
theorem imp_63 (i : Nat) (hi : (i < 9 ∨ 9 < i) ∧ (i < 12 ∨ 13 < i) ∧ (i < 18 ∨ 19 < i)) : (i < 9 ∨ 9 < i) := by omega
theorem imp_64 (i : Nat) (hi : (i < 9 ∨ 9 < i) ∧ (i < 12 ∨ 13 < i) ∧ (i < 18 ∨ 19 < i)) : (i < 9 ∨ 9 < i) ∧ (i < 12 ∨ 13 < i) := by omega
theorem imp_65 (i : Nat) (hi : (i < 9 ∨ 9 < i) ∧ (i < 12 ∨ 13 < i) ∧ (i < 18 ∨ 19 < i)) : (i < 12 ∨ 12 < i) := by omega
theorem imp_66 (i : Nat) (hi : (i < 9 ∨ 9 < i) ∧ (i < 12 ∨ 13 < i) ∧ (i < 22 ∨ 23 < i)) : (i < 22 ∨ 23 < i) := by omega
theorem imp_67 (i : Nat) (hi : (i < 9 ∨ 9 < i) ∧ (i < 12 ∨ 13 < i) ∧ (i < 22 ∨ 23 < i)) : (i < 9 ∨ 9 < i) := by omega
theorem imp_68 (i : Nat) (hi : (i < 9 ∨ 9 < i) ∧ (i < 12 ∨ 13 < i) ∧ (i < 22 ∨ 23 < i)) : (i < 9 ∨ 9 < i) ∧ (i < 12 ∨ 13 < i) := by omega
theorem imp_69 (i : Nat) (hi : (i < 9 ∨ 9 < i) ∧ (i < 12 ∨ 13 < i) ∧ (i < 22 ∨ 23 < i)) : (i < 12 ∨ 12 < i) := by omega
theorem imp_70 (i : Nat) (hi : (i < 27 ∨ 28 < i)) : i ≠ 28 := by omega
theorem imp_71 (i : Nat) (hi : (i < 27 ∨ 28 < i)) : i ≠ 27 := by omega
theorem imp_72 (i : Nat) (hi : (i < 26 ∨ 26 < i)) : i ≠ 26 := by omega
theorem imp_73 (i : Nat) (hi : (i < 6 ∨ 6 < i) ∧ (i < 7 ∨ 7 < i)) : (i < 7 ∨ 7 < i) := by omega
theorem imp_74 (i : Nat) (hi : (i < 6 ∨ 6 < i) ∧ (i < 7 ∨ 7 < i)) : i ≠ 7 := by omega
theorem imp_75 (i : Nat) (hi : (i < 6 ∨ 6 < i) ∧ (i < 7 ∨ 7 < i)) : i ≠ 6 := by omega
theorem imp_76 (i : Nat) (hi : (i < 7 ∨ 7 < i)) : i ≠ 7 := by omega
theorem imp_77 (i : Nat) (hi : (i < 24 ∨ 25 < i) ∧ (i < 29 ∨ 30 < i)) : i ≠ 29 := by omega
theorem imp_78 (i : Nat) (hi : (i < 24 ∨ 25 < i) ∧ (i < 29 ∨ 30 < i)) : i ≠ 30 := by omega
theorem imp_79 (i : Nat) (hi : (i < 24 ∨ 25 < i) ∧ (i < 29 ∨ 30 < i)) : (i < 25 ∨ 25 < i) := by omega
theorem imp_80 (i : Nat) (hi : (i < 24 ∨ 25 < i) ∧ (i < 29 ∨ 30 < i)) : (i < 24 ∨ 24 < i) := by omega
theorem imp_81 (i : Nat) (hi : (i < 31 ∨ 32 < i) ∧ (i < 36 ∨ 37 < i)) : i ≠ 31 := by omega
theorem imp_82 (i : Nat) (hi : (i < 31 ∨ 32 < i) ∧ (i < 36 ∨ 37 < i)) : i ≠ 36 := by omega
theorem imp_83 (i : Nat) (hi : (i < 31 ∨ 32 < i) ∧ (i < 36 ∨ 37 < i)) : i ≠ 37 := by omega
theorem imp_84 (i : Nat) (hi : (i < 31 ∨ 32 < i) ∧ (i < 36 ∨ 37 < i)) : i ≠ 32 := by omega
theorem imp_85 (i : Nat) (hi : (i < 8 ∨ 8 < i)) : i ≠ 8 := by omega
theorem imp_86 (i : Nat) (hi : (i < 31 ∨ 33 < i) ∧ (i < 36 ∨ 37 < i)) : (i < 31 ∨ 32 < i) ∧ (i < 36 ∨ 37 < i) := by omega
theorem imp_87 (i : Nat) (hi : (i < 31 ∨ 33 < i) ∧ (i < 36 ∨ 37 < i)) : i ≠ 31 := by omega
theorem imp_88 (i : Nat) (hi : (i < 8 ∨ 8 < i) ∧ (i < 9 ∨ 9 < i) ∧ (i < 10 ∨ 10 < i) ∧ (i < 11 ∨ 11 < i) ∧ (i < 12 ∨ 12 < i)) : (i < 8 ∨ 8 < i) := by omega
theorem imp_89 (i : Nat) (hi : (i < 8 ∨ 8 < i) ∧ (i < 9 ∨ 9 < i) ∧ (i < 10 ∨ 10 < i) ∧ (i < 11 ∨ 11 < i) ∧ (i < 12 ∨ 12 < i)) : i ≠ 8 := by omega
theorem imp_90 (i : Nat) (hi : (i < 8 ∨ 8 < i) ∧ (i < 9 ∨ 9 < i) ∧ (i < 10 ∨ 10 < i) ∧ (i < 11 ∨ 11 < i) ∧ (i < 12 ∨ 12 < i)) : i ≠ 12 := by omega
theorem imp_91 (i : Nat) (hi : (i < 8 ∨ 8 < i) ∧ (i < 9 ∨ 9 < i) ∧ (i < 10 ∨ 10 < i) ∧ (i < 11 ∨ 11 < i) ∧ (i < 12 ∨ 12 < i)) : i ≠ 11 := by omega
theorem imp_92 (i : Nat) (hi : (i < 8 ∨ 8 < i) ∧ (i < 9 ∨ 9 < i) ∧ (i < 10 ∨ 10 < i) ∧ (i < 11 ∨ 11 < i) ∧ (i < 12 ∨ 12 < i)) : i ≠ 10 := by omega
theorem imp_93 (i : Nat) (hi : (i < 8 ∨ 8 < i) ∧ (i < 9 ∨ 9 < i) ∧ (i < 10 ∨ 10 < i) ∧ (i < 11 ∨ 11 < i) ∧ (i < 12 ∨ 12 < i)) : i ≠ 9 := by omega
theorem imp_94 (i : Nat) (hi : (i < 31 ∨ 33 < i) ∧ (i < 36 ∨ 37 < i)) : i ≠ 33 := by omega
theorem imp_95 (i : Nat) (hi : (i < 24 ∨ 25 < i) ∧ (i < 29 ∨ 30 < i) ∧ (i < 34 ∨ 35 < i)) : i ≠ 34 := by omega
theorem imp_96 (i : Nat) (hi : (i < 24 ∨ 25 < i) ∧ (i < 29 ∨ 30 < i) ∧ (i < 34 ∨ 35 < i)) : (i < 34 ∨ 35 < i) := by omega
theorem imp_97 (i : Nat) (hi : (i < 24 ∨ 25 < i) ∧ (i < 29 ∨ 30 < i) ∧ (i < 34 ∨ 35 < i)) : i ≠ 35 := by omega
theorem imp_98 (i : Nat) (hi : (i < 24 ∨ 25 < i) ∧ (i < 29 ∨ 30 < i) ∧ (i < 34 ∨ 35 < i)) : (i < 24 ∨ 25 < i) ∧ (i < 29 ∨ 30 < i) := by omega
theorem imp_99 (i : Nat) (hi : (i < 34 ∨ 35 < i)) : i ≠ 35 := by omega
theorem imp_100 (i : Nat) (hi : (i < 34 ∨ 35 < i)) : i ≠ 34 := by omega
theorem imp_101 (i : Nat) (hi : (i < 24 ∨ 25 < i) ∧ (i < 29 ∨ 37 < i)) : (i < 24 ∨ 25 < i) ∧ (i < 29 ∨ 30 < i) ∧ (i < 34 ∨ 35 < i) := by omega
theorem imp_102 (i : Nat) (hi : (i < 24 ∨ 25 < i) ∧ (i < 29 ∨ 37 < i)) : (i < 31 ∨ 33 < i) ∧ (i < 36 ∨ 37 < i) := by omega
theorem imp_103 (i : Nat) (hi : (i < 38 ∨ 41 < i)) : i ≠ 38 := by omega
theorem imp_104 (i : Nat) (hi : (i < 38 ∨ 41 < i)) : i ≠ 41 := by omega
theorem imp_105 (i : Nat) (hi : (i < 38 ∨ 41 < i)) : i ≠ 40 := by omega
theorem imp_106 (i : Nat) (hi : (i < 38 ∨ 41 < i)) : i ≠ 39 := by omega
theorem imp_107 (i : Nat) (hi : (i < 20 ∨ 21 < i) ∧ (i < 24 ∨ 25 < i) ∧ (i < 29 ∨ 30 < i)) : (i < 24 ∨ 25 < i) ∧ (i < 29 ∨ 30 < i) := by omega
theorem imp_108 (i : Nat) (hi : (i < 20 ∨ 21 < i) ∧ (i < 24 ∨ 25 < i) ∧ (i < 29 ∨ 30 < i)) : (i < 21 ∨ 21 < i) := by omega
theorem imp_109 (i : Nat) (hi : (i < 20 ∨ 21 < i) ∧ (i < 24 ∨ 25 < i) ∧ (i < 29 ∨ 30 < i)) : (i < 20 ∨ 20 < i) := by omega
theorem imp_110 (i : Nat) (hi : (i < 20 ∨ 21 < i) ∧ (i < 24 ∨ 25 < i) ∧ (i < 29 ∨ 30 < i) ∧ (i < 43 ∨ 46 < i)) : i ≠ 43 := by omega
theorem imp_111 (i : Nat) (hi : (i < 20 ∨ 21 < i) ∧ (i < 24 ∨ 25 < i) ∧ (i < 29 ∨ 30 < i) ∧ (i < 43 ∨ 46 < i)) : i ≠ 46 := by omega
theorem imp_112 (i : Nat) (hi : (i < 20 ∨ 21 < i) ∧ (i < 24 ∨ 25 < i) ∧ (i < 29 ∨ 30 < i) ∧ (i < 43 ∨ 46 < i)) : i ≠ 45 := by omega
theorem imp_113 (i : Nat) (hi : (i < 20 ∨ 21 < i) ∧ (i < 24 ∨ 25 < i) ∧ (i < 29 ∨ 30 < i) ∧ (i < 43 ∨ 46 < i)) : i ≠ 44 := by omega
theorem imp_114 (i : Nat) (hi : (i < 20 ∨ 21 < i) ∧ (i < 24 ∨ 25 < i) ∧ (i < 29 ∨ 30 < i) ∧ (i < 43 ∨ 46 < i)) : (i < 24 ∨ 25 < i) ∧ (i < 29 ∨ 30 < i) := by omega
theorem imp_115 (i : Nat) (hi : (i < 20 ∨ 21 < i) ∧ (i < 24 ∨ 25 < i) ∧ (i < 29 ∨ 30 < i) ∧ (i < 43 ∨ 46 < i)) : (i < 20 ∨ 21 < i) ∧ (i < 24 ∨ 25 < i) ∧ (i < 29 ∨ 30 < i) := by omega
theorem imp_116 (i : Nat) (hi : (i < 47 ∨ 49 < i)) : i ≠ 47 := by omega
theorem imp_117 (i : Nat) (hi : (i < 47 ∨ 49 < i)) : i ≠ 49 := by omega
theorem imp_118 (i : Nat) (hi : (i < 47 ∨ 49 < i)) : i ≠ 48 := by omega
theorem imp_119 (i : Nat) (hi : (i < 51 ∨ 53 < i)) : i ≠ 52 := by omega
theorem imp_120 (i : Nat) (hi : (i < 51 ∨ 53 < i)) : i ≠ 53 := by omega
theorem imp_121 (i : Nat) (hi : (i < 51 ∨ 53 < i)) : i ≠ 51 := by omega
theorem imp_122 (i : Nat) (hi : (i < 51 ∨ 53 < i)) : (0 = 0) := by omega
theorem imp_123 (i : Nat) (hi : (i < 54 ∨ 54 < i)) : i ≠ 54 := by omega
theorem imp_124 (i : Nat) (hi : (i < 9 ∨ 9 < i) ∧ (i < 11 ∨ 11 < i) ∧ (i < 16 ∨ 17 < i) ∧ (i < 47 ∨ 47 < i)) : i ≠ 47 := by omega
theorem imp_125 (i : Nat) (hi : (i < 9 ∨ 9 < i) ∧ (i < 11 ∨ 11 < i) ∧ (i < 16 ∨ 17 < i) ∧ (i < 47 ∨ 47 < i)) : (i < 9 ∨ 9 < i) ∧ (i < 11 ∨ 11 < i) ∧ (i < 16 ∨ 17 < i) := by omega
theorem imp_126 (i : Nat) (hi : (i < 9 ∨ 9 < i) ∧ (i < 12 ∨ 13 < i) ∧ (i < 18 ∨ 19 < i) ∧ (i < 22 ∨ 23 < i) ∧ (i < 26 ∨ 26 < i)) : (i < 26 ∨ 26 < i) := by omega
theorem imp_127 (i : Nat) (hi : (i < 9 ∨ 9 < i) ∧ (i < 12 ∨ 13 < i) ∧ (i < 18 ∨ 19 < i) ∧ (i < 22 ∨ 23 < i) ∧ (i < 26 ∨ 26 < i)) : (i < 9 ∨ 9 < i) ∧ (i < 12 ∨ 13 < i) ∧ (i < 22 ∨ 23 < i) := by omega
theorem imp_128 (i : Nat) (hi : (i < 9 ∨ 9 < i) ∧ (i < 12 ∨ 13 < i) ∧ (i < 18 ∨ 19 < i) ∧ (i < 22 ∨ 23 < i) ∧ (i < 26 ∨ 26 < i)) : (i < 9 ∨ 9 < i) ∧ (i < 12 ∨ 13 < i) ∧ (i < 18 ∨ 19 < i) := by omega
theorem imp_129 (i : Nat) (hi : (i < 24 ∨ 25 < i) ∧ (i < 27 ∨ 30 < i)) : (i < 24 ∨ 25 < i) ∧ (i < 29 ∨ 30 < i) := by omega
theorem imp_130 (i : Nat) (hi : (i < 24 ∨ 25 < i) ∧ (i < 27 ∨ 30 < i)) : (i < 27 ∨ 28 < i) := by omega
theorem imp_131 (i : Nat) (hi : (i < 24 ∨ 25 < i) ∧ (i < 27 ∨ 37 < i)) : (i < 27 ∨ 28 < i) := by omega
theorem imp_132 (i : Nat) (hi : (i < 24 ∨ 25 < i) ∧ (i < 27 ∨ 37 < i)) : (i < 24 ∨ 25 < i) ∧ (i < 29 ∨ 37 < i) := by omega
theorem imp_133 (i : Nat) (hi : (i < 20 ∨ 21 < i) ∧ (i < 24 ∨ 25 < i) ∧ (i < 27 ∨ 37 < i)) : (i < 20 ∨ 21 < i) ∧ (i < 24 ∨ 25 < i) ∧ (i < 29 ∨ 30 < i) := by omega
theorem imp_134 (i : Nat) (hi : (i < 20 ∨ 21 < i) ∧ (i < 24 ∨ 25 < i) ∧ (i < 27 ∨ 37 < i)) : (i < 27 ∨ 28 < i) := by omega
theorem imp_135 (i : Nat) (hi : (i < 20 ∨ 21 < i) ∧ (i < 24 ∨ 25 < i) ∧ (i < 27 ∨ 37 < i)) : (i < 24 ∨ 25 < i) ∧ (i < 29 ∨ 37 < i) := by omega
theorem imp_136 (i : Nat) (hi : (i < 20 ∨ 21 < i) ∧ (i < 24 ∨ 25 < i) ∧ (i < 27 ∨ 37 < i)) : (i < 24 ∨ 25 < i) ∧ (i < 27 ∨ 37 < i) := by omega
theorem imp_137 (i : Nat) (hi : (i < 1 ∨ 1 < i) ∧ (i < 24 ∨ 25 < i) ∧ (i < 27 ∨ 37 < i)) : (i < 1 ∨ 1 < i) ∧ (i < 24 ∨ 25 < i) ∧ (i < 29 ∨ 37 < i) := by omega
theorem imp_138 (i : Nat) (hi : (i < 1 ∨ 1 < i) ∧ (i < 24 ∨ 25 < i) ∧ (i < 27 ∨ 37 < i)) : (i < 1 ∨ 1 < i) := by omega
theorem imp_139 (i : Nat) (hi : (i < 1 ∨ 1 < i) ∧ (i < 24 ∨ 25 < i) ∧ (i < 27 ∨ 37 < i)) : (i < 27 ∨ 28 < i) := by omega
theorem imp_140 (i : Nat) (hi : (i < 1 ∨ 1 < i) ∧ (i < 24 ∨ 25 < i) ∧ (i < 29 ∨ 37 < i)) : (i < 1 ∨ 1 < i) := by omega
theorem imp_141 (i : Nat) (hi : (i < 1 ∨ 1 < i) ∧ (i < 24 ∨ 25 < i) ∧ (i < 29 ∨ 37 < i)) : (i < 24 ∨ 25 < i) ∧ (i < 29 ∨ 37 < i) := by omega
theorem imp_142 (i : Nat) (hi : (i < 47 ∨ 47 < i)) : i ≠ 47 := by omega
theorem imp_143 (i : Nat) (hi : (i < 24 ∨ 25 < i) ∧ (i < 27 ∨ 37 < i)) : (i < 24 ∨ 25 < i) ∧ (i < 29 ∨ 30 < i) := by omega
theorem imp_144 (i : Nat) (hi : (i < 20 ∨ 21 < i) ∧ (i < 24 ∨ 25 < i) ∧ (i < 27 ∨ 37 < i) ∧ (i < 43 ∨ 46 < i)) : (i < 20 ∨ 21 < i) ∧ (i < 24 ∨ 25 < i) ∧ (i < 29 ∨ 30 < i) ∧ (i < 43 ∨ 46 < i) := by omega
theorem imp_145 (i : Nat) (hi : (i < 20 ∨ 21 < i) ∧ (i < 24 ∨ 25 < i) ∧ (i < 27 ∨ 37 < i) ∧ (i < 43 ∨ 46 < i)) : (i < 24 ∨ 25 < i) ∧ (i < 27 ∨ 37 < i) := by omega
theorem imp_146 (i : Nat) (hi : (i < 55 ∨ 59 < i)) : i ≠ 56 := by omega
theorem imp_147 (i : Nat) (hi : (i < 55 ∨ 59 < i)) : i ≠ 55 := by omega
theorem imp_148 (i : Nat) (hi : (i < 55 ∨ 59 < i)) : i ≠ 59 := by omega
theorem imp_149 (i : Nat) (hi : (i < 55 ∨ 59 < i)) : i ≠ 58 := by omega
theorem imp_150 (i : Nat) (hi : (i < 55 ∨ 59 < i)) : i ≠ 57 := by omega
theorem imp_151 (i : Nat) (hi : (i < 4 ∨ 4 < i) ∧ (i < 5 ∨ 5 < i)) : i ≠ 4 := by omega
theorem imp_152 (i : Nat) (hi : (i < 4 ∨ 4 < i) ∧ (i < 5 ∨ 5 < i)) : i ≠ 5 := by omega
theorem imp_153 (i : Nat) (hi : (i < 55 ∨ 59 < i)) : (i < 57 ∨ 59 < i) := by omega
theorem imp_154 (i : Nat) (hi : (i < 57 ∨ 59 < i)) : i ≠ 59 := by omega
theorem imp_155 (i : Nat) (hi : (i < 57 ∨ 59 < i)) : i ≠ 58 := by omega
theorem imp_156 (i : Nat) (hi : (i < 57 ∨ 59 < i)) : i ≠ 57 := by omega
theorem imp_157 (i : Nat) (hi : (i < 55 ∨ 56 < i)) : i ≠ 56 := by omega
theorem imp_158 (i : Nat) (hi : (i < 55 ∨ 56 < i)) : i ≠ 55 := by omega
theorem imp_159 (i : Nat) (hi : (i < 5 ∨ 5 < i)) : i ≠ 5 := by omega
theorem imp_160 (i : Nat) (hi : (i < 55 ∨ 56 < i) ∧ (i < 60 ∨ 61 < i)) : i ≠ 55 := by omega
theorem imp_161 (i : Nat) (hi : (i < 55 ∨ 56 < i) ∧ (i < 60 ∨ 61 < i)) : i ≠ 61 := by omega
theorem imp_162 (i : Nat) (hi : (i < 55 ∨ 56 < i) ∧ (i < 60 ∨ 61 < i)) : i ≠ 60 := by omega
theorem imp_163 (i : Nat) (hi : (i < 55 ∨ 56 < i) ∧ (i < 60 ∨ 61 < i)) : i ≠ 56 := by omega
theorem imp_164 (i : Nat) (hi : (i < 6 ∨ 6 < i)) : i ≠ 6 := by omega
theorem imp_165 (i : Nat) (hi : (i < 55 ∨ 55 < i)) : i ≠ 55 := by omega
theorem imp_166 (i : Nat) (hi : (i < 55 ∨ 55 < i) ∧ (i < 63 ∨ 63 < i)) : i ≠ 55 := by omega
theorem imp_167 (i : Nat) (hi : (i < 55 ∨ 55 < i) ∧ (i < 63 ∨ 63 < i)) : i ≠ 63 := by omega
theorem imp_168 (i : Nat) (hi : (i < 15 ∨ 15 < i)) : i ≠ 15 := by omega
theorem imp_169 (i : Nat) (hi : (i < 19 ∨ 19 < i)) : i ≠ 19 := by omega
theorem imp_170 (i : Nat) (hi : (i < 19 ∨ 19 < i) ∧ (i < 21 ∨ 21 < i) ∧ (i < 22 ∨ 22 < i)) : i ≠ 22 := by omega
theorem imp_171 (i : Nat) (hi : (i < 19 ∨ 19 < i) ∧ (i < 21 ∨ 21 < i) ∧ (i < 22 ∨ 22 < i)) : i ≠ 19 := by omega
theorem imp_172 (i : Nat) (hi : (i < 19 ∨ 19 < i) ∧ (i < 21 ∨ 21 < i) ∧ (i < 22 ∨ 22 < i)) : (i < 21 ∨ 21 < i) := by omega
theorem imp_173 (i : Nat) (hi : (i < 19 ∨ 19 < i) ∧ (i < 21 ∨ 21 < i) ∧ (i < 22 ∨ 22 < i)) : (i < 19 ∨ 19 < i) := by omega
theorem imp_174 (i : Nat) (hi : (i < 18 ∨ 18 < i) ∧ (i < 19 ∨ 19 < i) ∧ (i < 20 ∨ 20 < i) ∧ (i < 21 ∨ 21 < i) ∧ (i < 22 ∨ 22 < i)) : (i < 19 ∨ 19 < i) ∧ (i < 21 ∨ 21 < i) ∧ (i < 22 ∨ 22 < i) := by omega
theorem imp_175 (i : Nat) (hi : (i < 18 ∨ 18 < i) ∧ (i < 19 ∨ 19 < i) ∧ (i < 20 ∨ 20 < i) ∧ (i < 21 ∨ 21 < i) ∧ (i < 22 ∨ 22 < i)) : i ≠ 22 := by omega
theorem imp_176 (i : Nat) (hi : (i < 18 ∨ 18 < i) ∧ (i < 19 ∨ 19 < i) ∧ (i < 20 ∨ 20 < i) ∧ (i < 21 ∨ 21 < i) ∧ (i < 22 ∨ 22 < i)) : i ≠ 21 := by omega
theorem imp_177 (i : Nat) (hi : (i < 18 ∨ 18 < i) ∧ (i < 19 ∨ 19 < i) ∧ (i < 20 ∨ 20 < i) ∧ (i < 21 ∨ 21 < i) ∧ (i < 22 ∨ 22 < i)) : i ≠ 20 := by omega
theorem imp_178 (i : Nat) (hi : (i < 18 ∨ 18 < i) ∧ (i < 19 ∨ 19 < i) ∧ (i < 20 ∨ 20 < i) ∧ (i < 21 ∨ 21 < i) ∧ (i < 22 ∨ 22 < i)) : i ≠ 19 := by omega
theorem imp_179 (i : Nat) (hi : (i < 18 ∨ 18 < i) ∧ (i < 19 ∨ 19 < i) ∧ (i < 20 ∨ 20 < i) ∧ (i < 21 ∨ 21 < i) ∧ (i < 22 ∨ 22 < i)) : i ≠ 18 := by omega
theorem imp_180 (i : Nat) (hi : (i < 18 ∨ 18 < i) ∧ (i < 19 ∨ 19 < i) ∧ (i < 20 ∨ 20 < i) ∧ (i < 21 ∨ 21 < i) ∧ (i < 22 ∨ 22 < i)) : (i < 21 ∨ 21 < i) := by omega
theorem imp_181 (i : Nat) (hi : (i < 55 ∨ 55 < i) ∧ (i < 64 ∨ 65 < i)) : i ≠ 65 := by omega
theorem imp_182 (i : Nat) (hi : (i < 55 ∨ 55 < i) ∧ (i < 64 ∨ 65 < i)) : (i < 64 ∨ 64 < i) := by omega
theorem imp_183 (i : Nat) (hi : (i < 55 ∨ 55 < i) ∧ (i < 64 ∨ 65 < i)) : i ≠ 55 := by omega
theorem imp_184 (i : Nat) (hi : (i < 55 ∨ 55 < i) ∧ (i < 64 ∨ 65 < i)) : (i < 55 ∨ 55 < i) := by omega
theorem imp_185 (i : Nat) (hi : (i < 15 ∨ 15 < i) ∧ (i < 18 ∨ 18 < i) ∧ (i < 19 ∨ 19 < i) ∧ (i < 20 ∨ 20 < i) ∧ (i < 21 ∨ 21 < i) ∧ (i < 22 ∨ 22 < i)) : i ≠ 15 := by omega
theorem imp_186 (i : Nat) (hi : (i < 15 ∨ 15 < i) ∧ (i < 18 ∨ 18 < i) ∧ (i < 19 ∨ 19 < i) ∧ (i < 20 ∨ 20 < i) ∧ (i < 21 ∨ 21 < i) ∧ (i < 22 ∨ 22 < i)) : (i < 18 ∨ 18 < i) ∧ (i < 19 ∨ 19 < i) ∧ (i < 20 ∨ 20 < i) ∧ (i < 21 ∨ 21 < i) ∧ (i < 22 ∨ 22 < i) := by omega
theorem imp_187 (i : Nat) (hi : (i < 64 ∨ 64 < i)) : i ≠ 64 := by omega
theorem imp_188 (i : Nat) (hi : (i < 55 ∨ 55 < i) ∧ (i < 68 ∨ 69 < i)) : (i < 68 ∨ 69 < i) := by omega
theorem imp_189 (i : Nat) (hi : (i < 55 ∨ 55 < i) ∧ (i < 68 ∨ 69 < i)) : i ≠ 55 := by omega
theorem imp_190 (i : Nat) (hi : (i < 25 ∨ 25 < i) ∧ (i < 26 ∨ 26 < i) ∧ (i < 27 ∨ 27 < i)) : i ≠ 27 := by omega
theorem imp_191 (i : Nat) (hi : (i < 25 ∨ 25 < i) ∧ (i < 26 ∨ 26 < i) ∧ (i < 27 ∨ 27 < i)) : i ≠ 26 := by omega
theorem imp_192 (i : Nat) (hi : (i < 25 ∨ 25 < i) ∧ (i < 26 ∨ 26 < i) ∧ (i < 27 ∨ 27 < i)) : i ≠ 25 := by omega
theorem imp_193 (i : Nat) (hi : (i < 68 ∨ 69 < i)) : i ≠ 69 := by omega
theorem imp_194 (i : Nat) (hi : (i < 68 ∨ 69 < i)) : i ≠ 68 := by omega
theorem imp_195 (i : Nat) (hi : (i < 55 ∨ 55 < i) ∧ (i < 66 ∨ 66 < i)) : (i < 55 ∨ 55 < i) := by omega
theorem imp_196 (i : Nat) (hi : (i < 55 ∨ 55 < i) ∧ (i < 66 ∨ 66 < i)) : i ≠ 66 := by omega
theorem imp_197 (i : Nat) (hi : (i < 55 ∨ 55 < i) ∧ (i < 68 ∨ 69 < i)) : i ≠ 69 := by omega
theorem imp_198 (i : Nat) (hi : (i < 55 ∨ 55 < i) ∧ (i < 68 ∨ 69 < i)) : i ≠ 68 := by omega
theorem imp_199 (i : Nat) (hi : (i < 42 ∨ 42 < i)) : i ≠ 42 := by omega
theorem imp_200 (i : Nat) (hi : ((i < 55 ∨ 55 < i) ∧ (i < 66 ∨ 66 < i) ∧ (i < 74 ∨ 78 < i)) ∧ i ≠ 68 ∧ i ≠ 69) : (i < 55 ∨ 55 < i) ∧ (i < 68 ∨ 69 < i) := by omega
theorem imp_201 (i : Nat) (hi : ((i < 55 ∨ 55 < i) ∧ (i < 66 ∨ 66 < i) ∧ (i < 74 ∨ 78 < i)) ∧ i ≠ 68 ∧ i ≠ 69) : (i < 55 ∨ 55 < i) ∧ (i < 66 ∨ 66 < i) ∧ (i < 74 ∨ 78 < i) := by omega
theorem imp_202 (i : Nat) (hi : ((i < 18 ∨ 18 < i) ∧ (i < 19 ∨ 19 < i) ∧ (i < 20 ∨ 20 < i) ∧ (i < 21 ∨ 21 < i) ∧ (i < 22 ∨ 22 < i) ∧ (i < 37 ∨ 37 < i)) ∧ i ≠ 25 ∧ i ≠ 26 ∧ i ≠ 27) : (i < 25 ∨ 25 < i) ∧ (i < 26 ∨ 26 < i) ∧ (i < 27 ∨ 27 < i) := by omega
theorem imp_203 (i : Nat) (hi : ((i < 18 ∨ 18 < i) ∧ (i < 19 ∨ 19 < i) ∧ (i < 20 ∨ 20 < i) ∧ (i < 21 ∨ 21 < i) ∧ (i < 22 ∨ 22 < i) ∧ (i < 37 ∨ 37 < i)) ∧ i ≠ 25 ∧ i ≠ 26 ∧ i ≠ 27) : (i < 18 ∨ 18 < i) ∧ (i < 19 ∨ 19 < i) ∧ (i < 20 ∨ 20 < i) ∧ (i < 21 ∨ 21 < i) ∧ (i < 22 ∨ 22 < i) ∧ (i < 37 ∨ 37 < i) := by omega
theorem imp_204 (i : Nat) (hi : (i < 55 ∨ 55 < i) ∧ (i < 66 ∨ 66 < i) ∧ (i < 74 ∨ 78 < i)) : (i < 55 ∨ 55 < i) ∧ (i < 66 ∨ 66 < i) := by omega
theorem imp_205 (i : Nat) (hi : (i < 18 ∨ 18 < i) ∧ (i < 19 ∨ 19 < i) ∧ (i < 20 ∨ 20 < i) ∧ (i < 21 ∨ 21 < i) ∧ (i < 22 ∨ 22 < i) ∧ (i < 37 ∨ 37 < i)) : (i < 18 ∨ 18 < i) ∧ (i < 19 ∨ 19 < i) ∧ (i < 20 ∨ 20 < i) ∧ (i < 21 ∨ 21 < i) ∧ (i < 22 ∨ 22 < i) := by omega
theorem imp_206 (i : Nat) (hi : (i < 55 ∨ 55 < i) ∧ (i < 66 ∨ 66 < i) ∧ (i < 74 ∨ 78 < i)) : i ≠ 55 := by omega
theorem imp_207 (i : Nat) (hi : (i < 18 ∨ 18 < i) ∧ (i < 19 ∨ 19 < i) ∧ (i < 20 ∨ 20 < i) ∧ (i < 21 ∨ 21 < i) ∧ (i < 22 ∨ 22 < i) ∧ (i < 37 ∨ 37 < i)) : i ≠ 37 := by omega
theorem imp_208 (i : Nat) (hi : (i < 55 ∨ 55 < i) ∧ (i < 66 ∨ 66 < i) ∧ (i < 74 ∨ 78 < i)) : i ≠ 77 := by omega
theorem imp_209 (i : Nat) (hi : (i < 55 ∨ 55 < i) ∧ (i < 66 ∨ 66 < i) ∧ (i < 74 ∨ 78 < i)) : i ≠ 76 := by omega
theorem imp_210 (i : Nat) (hi : (i < 55 ∨ 55 < i) ∧ (i < 66 ∨ 66 < i) ∧ (i < 74 ∨ 78 < i)) : i ≠ 75 := by omega
theorem imp_211 (i : Nat) (hi : (i < 55 ∨ 55 < i) ∧ (i < 66 ∨ 66 < i) ∧ (i < 74 ∨ 78 < i)) : i ≠ 74 := by omega
theorem imp_212 (i : Nat) (hi : (i < 55 ∨ 55 < i) ∧ (i < 66 ∨ 66 < i) ∧ (i < 74 ∨ 78 < i)) : i ≠ 78 := by omega
theorem imp_213 (i : Nat) (hi : (i < 55 ∨ 55 < i) ∧ (i < 68 ∨ 69 < i) ∧ (i < 80 ∨ 81 < i)) : (i < 55 ∨ 55 < i) ∧ (i < 68 ∨ 69 < i) := by omega
theorem imp_214 (i : Nat) (hi : (i < 25 ∨ 25 < i) ∧ (i < 26 ∨ 26 < i) ∧ (i < 27 ∨ 27 < i) ∧ (i < 47 ∨ 47 < i)) : (i < 25 ∨ 25 < i) ∧ (i < 26 ∨ 26 < i) ∧ (i < 27 ∨ 27 < i) := by omega
theorem imp_215 (i : Nat) (hi : (i < 55 ∨ 55 < i) ∧ (i < 68 ∨ 69 < i) ∧ (i < 80 ∨ 81 < i)) : i ≠ 55 := by omega
theorem imp_216 (i : Nat) (hi : (i < 55 ∨ 55 < i) ∧ (i < 68 ∨ 69 < i) ∧ (i < 80 ∨ 81 < i)) : i ≠ 81 := by omega
theorem imp_217 (i : Nat) (hi : (i < 55 ∨ 55 < i) ∧ (i < 68 ∨ 69 < i) ∧ (i < 80 ∨ 81 < i)) : i ≠ 80 := by omega
theorem imp_218 (i : Nat) (hi : (i < 25 ∨ 25 < i) ∧ (i < 26 ∨ 26 < i) ∧ (i < 27 ∨ 27 < i) ∧ (i < 47 ∨ 47 < i)) : i ≠ 47 := by omega
theorem imp_219 (i : Nat) (hi : (i < 19 ∨ 19 < i) ∧ (i < 21 ∨ 21 < i)) : (i < 21 ∨ 21 < i) := by omega
theorem imp_220 (i : Nat) (hi : (i < 19 ∨ 19 < i) ∧ (i < 21 ∨ 21 < i)) : i ≠ 19 := by omega
theorem imp_221 (i : Nat) (hi : (i < 55 ∨ 55 < i) ∧ (i < 62 ∨ 62 < i) ∧ (i < 67 ∨ 67 < i)) : i ≠ 55 := by omega
theorem imp_222 (i : Nat) (hi : (i < 55 ∨ 55 < i) ∧ (i < 62 ∨ 62 < i) ∧ (i < 67 ∨ 67 < i)) : (i < 62 ∨ 62 < i) := by omega
theorem imp_223 (i : Nat) (hi : (i < 55 ∨ 55 < i) ∧ (i < 62 ∨ 62 < i) ∧ (i < 67 ∨ 67 < i)) : (i < 55 ∨ 55 < i) := by omega
theorem imp_224 (i : Nat) (hi : (i < 55 ∨ 55 < i) ∧ (i < 62 ∨ 62 < i) ∧ (i < 67 ∨ 67 < i)) : (i < 55 ∨ 55 < i) ∧ (i < 67 ∨ 67 < i) := by omega
theorem imp_225 (i : Nat) (hi : (i < 10 ∨ 10 < i) ∧ (i < 12 ∨ 12 < i) ∧ (i < 13 ∨ 13 < i) ∧ (i < 15 ∨ 15 < i) ∧ (i < 18 ∨ 18 < i) ∧ (i < 19 ∨ 19 < i) ∧ (i < 20 ∨ 20 < i) ∧ (i < 21 ∨ 21 < i) ∧ (i < 47 ∨ 47 < i)) : i ≠ 47 := by omega
theorem imp_226 (i : Nat) (hi : (i < 10 ∨ 10 < i) ∧ (i < 12 ∨ 12 < i) ∧ (i < 13 ∨ 13 < i) ∧ (i < 15 ∨ 15 < i) ∧ (i < 18 ∨ 18 < i) ∧ (i < 19 ∨ 19 < i) ∧ (i < 20 ∨ 20 < i) ∧ (i < 21 ∨ 21 < i) ∧ (i < 47 ∨ 47 < i)) : i ≠ 13 := by omega
theorem imp_227 (i : Nat) (hi : (i < 10 ∨ 10 < i) ∧ (i < 12 ∨ 12 < i) ∧ (i < 13 ∨ 13 < i) ∧ (i < 15 ∨ 15 < i) ∧ (i < 18 ∨ 18 < i) ∧ (i < 19 ∨ 19 < i) ∧ (i < 20 ∨ 20 < i) ∧ (i < 21 ∨ 21 < i) ∧ (i < 47 ∨ 47 < i)) : i ≠ 12 := by omega
theorem imp_228 (i : Nat) (hi : (i < 10 ∨ 10 < i) ∧ (i < 12 ∨ 12 < i) ∧ (i < 13 ∨ 13 < i) ∧ (i < 15 ∨ 15 < i) ∧ (i < 18 ∨ 18 < i) ∧ (i < 19 ∨ 19 < i) ∧ (i < 20 ∨ 20 < i) ∧ (i < 21 ∨ 21 < i) ∧ (i < 47 ∨ 47 < i)) : i ≠ 10 := by omega
theorem imp_229 (i : Nat) (hi : (i < 10 ∨ 10 < i) ∧ (i < 12 ∨ 12 < i) ∧ (i < 13 ∨ 13 < i) ∧ (i < 15 ∨ 15 < i) ∧ (i < 18 ∨ 18 < i) ∧ (i < 19 ∨ 19 < i) ∧ (i < 20 ∨ 20 < i) ∧ (i < 21 ∨ 21 < i) ∧ (i < 47 ∨ 47 < i)) : i ≠ 15 := by omega
theorem imp_230 (i : Nat) (hi : (i < 10 ∨ 10 < i) ∧ (i < 12 ∨ 12 < i) ∧ (i < 13 ∨ 13 < i) ∧ (i < 15 ∨ 15 < i) ∧ (i < 18 ∨ 18 < i) ∧ (i < 19 ∨ 19 < i) ∧ (i < 20 ∨ 20 < i) ∧ (i < 21 ∨ 21 < i) ∧ (i < 47 ∨ 47 < i)) : (i < 21 ∨ 21 < i) := by omega
theorem imp_231 (i : Nat) (hi : (i < 10 ∨ 10 < i) ∧ (i < 12 ∨ 12 < i) ∧ (i < 13 ∨ 13 < i) ∧ (i < 15 ∨ 15 < i) ∧ (i < 18 ∨ 18 < i) ∧ (i < 19 ∨ 19 < i) ∧ (i < 20 ∨ 20 < i) ∧ (i < 21 ∨ 21 < i) ∧ (i < 47 ∨ 47 < i)) : (i < 19 ∨ 19 < i) ∧ (i < 21 ∨ 21 < i) := by omega
theorem imp_232 (i : Nat) (hi : (i < 10 ∨ 10 < i) ∧ (i < 12 ∨ 12 < i) ∧ (i < 13 ∨ 13 < i) ∧ (i < 15 ∨ 15 < i) ∧ (i < 18 ∨ 18 < i) ∧ (i < 19 ∨ 19 < i) ∧ (i < 20 ∨ 20 < i) ∧ (i < 21 ∨ 21 < i) ∧ (i < 47 ∨ 47 < i)) : (i < 19 ∨ 19 < i) := by omega
theorem imp_233 (i : Nat) (hi : (i < 10 ∨ 10 < i) ∧ (i < 12 ∨ 12 < i) ∧ (i < 13 ∨ 13 < i) ∧ (i < 15 ∨ 15 < i) ∧ (i < 18 ∨ 18 < i) ∧ (i < 19 ∨ 19 < i) ∧ (i < 20 ∨ 20 < i) ∧ (i < 21 ∨ 21 < i) ∧ (i < 47 ∨ 47 < i)) : i ≠ 21 := by omega
theorem imp_234 (i : Nat) (hi : (i < 10 ∨ 10 < i) ∧ (i < 12 ∨ 12 < i) ∧ (i < 13 ∨ 13 < i) ∧ (i < 15 ∨ 15 < i) ∧ (i < 18 ∨ 18 < i) ∧ (i < 19 ∨ 19 < i) ∧ (i < 20 ∨ 20 < i) ∧ (i < 21 ∨ 21 < i) ∧ (i < 47 ∨ 47 < i)) : i ≠ 20 := by omega
theorem imp_235 (i : Nat) (hi : (i < 10 ∨ 10 < i) ∧ (i < 12 ∨ 12 < i) ∧ (i < 13 ∨ 13 < i) ∧ (i < 15 ∨ 15 < i) ∧ (i < 18 ∨ 18 < i) ∧ (i < 19 ∨ 19 < i) ∧ (i < 20 ∨ 20 < i) ∧ (i < 21 ∨ 21 < i) ∧ (i < 47 ∨ 47 < i)) : i ≠ 19 := by omega
theorem imp_236 (i : Nat) (hi : (i < 10 ∨ 10 < i) ∧ (i < 12 ∨ 12 < i) ∧ (i < 13 ∨ 13 < i) ∧ (i < 15 ∨ 15 < i) ∧ (i < 18 ∨ 18 < i) ∧ (i < 19 ∨ 19 < i) ∧ (i < 20 ∨ 20 < i) ∧ (i < 21 ∨ 21 < i) ∧ (i < 47 ∨ 47 < i)) : i ≠ 18 := by omega
theorem imp_237 (i : Nat) (hi : (i < 62 ∨ 62 < i)) : i ≠ 62 := by omega
theorem imp_238 (i : Nat) (hi : (i < 19 ∨ 19 < i) ∧ (i < 21 ∨ 21 < i)) : (i < 19 ∨ 19 < i) := by omega
theorem imp_239 (i : Nat) (hi : (i < 55 ∨ 55 < i) ∧ (i < 67 ∨ 67 < i)) : i ≠ 55 := by omega
theorem imp_240 (i : Nat) (hi : (i < 55 ∨ 55 < i) ∧ (i < 67 ∨ 67 < i)) : i ≠ 67 := by omega
theorem imp_241 (i : Nat) (hi : (i < 55 ∨ 55 < i) ∧ (i < 66 ∨ 66 < i) ∧ (i < 68 ∨ 69 < i)) : i ≠ 55 := by omega
theorem imp_242 (i : Nat) (hi : (i < 55 ∨ 55 < i) ∧ (i < 66 ∨ 66 < i) ∧ (i < 68 ∨ 69 < i)) : i ≠ 68 := by omega
theorem imp_243 (i : Nat) (hi : (i < 55 ∨ 55 < i) ∧ (i < 66 ∨ 66 < i) ∧ (i < 68 ∨ 69 < i)) : (i < 55 ∨ 55 < i) ∧ (i < 68 ∨ 69 < i) := by omega
theorem imp_244 (i : Nat) (hi : (i < 18 ∨ 18 < i) ∧ (i < 19 ∨ 19 < i) ∧ (i < 20 ∨ 20 < i) ∧ (i < 21 ∨ 21 < i) ∧ (i < 22 ∨ 22 < i) ∧ (i < 25 ∨ 25 < i) ∧ (i < 26 ∨ 26 < i) ∧ (i < 27 ∨ 27 < i)) : i ≠ 25 := by omega
theorem imp_245 (i : Nat) (hi : (i < 18 ∨ 18 < i) ∧ (i < 19 ∨ 19 < i) ∧ (i < 20 ∨ 20 < i) ∧ (i < 21 ∨ 21 < i) ∧ (i < 22 ∨ 22 < i) ∧ (i < 25 ∨ 25 < i) ∧ (i < 26 ∨ 26 < i) ∧ (i < 27 ∨ 27 < i)) : i ≠ 26 := by omega
theorem imp_246 (i : Nat) (hi : (i < 18 ∨ 18 < i) ∧ (i < 19 ∨ 19 < i) ∧ (i < 20 ∨ 20 < i) ∧ (i < 21 ∨ 21 < i) ∧ (i < 22 ∨ 22 < i) ∧ (i < 25 ∨ 25 < i) ∧ (i < 26 ∨ 26 < i) ∧ (i < 27 ∨ 27 < i)) : (i < 25 ∨ 25 < i) ∧ (i < 26 ∨ 26 < i) ∧ (i < 27 ∨ 27 < i) := by omega
theorem imp_247 (i : Nat) (hi : (i < 55 ∨ 55 < i) ∧ (i < 66 ∨ 66 < i) ∧ (i < 68 ∨ 69 < i)) : (i < 55 ∨ 55 < i) ∧ (i < 66 ∨ 66 < i) := by omega
theorem imp_248 (i : Nat) (hi : (i < 18 ∨ 18 < i) ∧ (i < 19 ∨ 19 < i) ∧ (i < 20 ∨ 20 < i) ∧ (i < 21 ∨ 21 < i) ∧ (i < 22 ∨ 22 < i) ∧ (i < 25 ∨ 25 < i) ∧ (i < 26 ∨ 26 < i) ∧ (i < 27 ∨ 27 < i)) : (i < 18 ∨ 18 < i) ∧ (i < 19 ∨ 19 < i) ∧ (i < 20 ∨ 20 < i) ∧ (i < 21 ∨ 21 < i) ∧ (i < 22 ∨ 22 < i) := by omega
theorem imp_249 (i : Nat) (hi : (i < 55 ∨ 55 < i) ∧ (i < 70 ∨ 73 < i)) : i ≠ 55 := by omega
theorem imp_250 (i : Nat) (hi : (i < 55 ∨ 55 < i) ∧ (i < 70 ∨ 73 < i)) : i ≠ 73 := by omega
theorem imp_251 (i : Nat) (hi : (i < 55 ∨ 55 < i) ∧ (i < 70 ∨ 73 < i)) : i ≠ 71 := by omega
theorem imp_252 (i : Nat) (hi : (i < 55 ∨ 55 < i) ∧ (i < 70 ∨ 73 < i)) : i ≠ 70 := by omega
theorem imp_253 (i : Nat) (hi : (i < 55 ∨ 55 < i) ∧ (i < 70 ∨ 73 < i)) : (i < 72 ∨ 72 < i) := by omega
theorem imp_254 (i : Nat) (hi : (i < 32 ∨ 32 < i)) : i ≠ 32 := by omega
theorem imp_255 (i : Nat) (hi : (i < 72 ∨ 72 < i)) : i ≠ 72 := by omega
theorem imp_256 (i : Nat) (hi : (i < 55 ∨ 55 < i) ∧ (i < 66 ∨ 66 < i) ∧ (i < 68 ∨ 69 < i) ∧ (i < 74 ∨ 78 < i)) : (i < 55 ∨ 55 < i) ∧ (i < 68 ∨ 69 < i) := by omega
theorem imp_257 (i : Nat) (hi : (i < 18 ∨ 18 < i) ∧ (i < 19 ∨ 19 < i) ∧ (i < 20 ∨ 20 < i) ∧ (i < 21 ∨ 21 < i) ∧ (i < 22 ∨ 22 < i) ∧ (i < 25 ∨ 25 < i) ∧ (i < 26 ∨ 26 < i) ∧ (i < 27 ∨ 27 < i) ∧ (i < 37 ∨ 37 < i) ∧ (i < 42 ∨ 42 < i)) : (i < 25 ∨ 25 < i) ∧ (i < 26 ∨ 26 < i) ∧ (i < 27 ∨ 27 < i) := by omega
theorem imp_258 (i : Nat) (hi : (i < 55 ∨ 55 < i) ∧ (i < 66 ∨ 66 < i) ∧ (i < 68 ∨ 69 < i) ∧ (i < 74 ∨ 78 < i)) : (i < 55 ∨ 55 < i) ∧ (i < 66 ∨ 66 < i) ∧ (i < 74 ∨ 78 < i) := by omega
theorem imp_259 (i : Nat) (hi : (i < 55 ∨ 55 < i) ∧ (i < 66 ∨ 66 < i) ∧ (i < 68 ∨ 69 < i) ∧ (i < 74 ∨ 78 < i)) : (i < 55 ∨ 55 < i) := by omega
theorem imp_260 (i : Nat) (hi : (i < 18 ∨ 18 < i) ∧ (i < 19 ∨ 19 < i) ∧ (i < 20 ∨ 20 < i) ∧ (i < 21 ∨ 21 < i) ∧ (i < 22 ∨ 22 < i) ∧ (i < 25 ∨ 25 < i) ∧ (i < 26 ∨ 26 < i) ∧ (i < 27 ∨ 27 < i) ∧ (i < 37 ∨ 37 < i) ∧ (i < 42 ∨ 42 < i)) : (i < 18 ∨ 18 < i) ∧ (i < 19 ∨ 19 < i) ∧ (i < 20 ∨ 20 < i) ∧ (i < 21 ∨ 21 < i) ∧ (i < 22 ∨ 22 < i) ∧ (i < 37 ∨ 37 < i) := by omega
theorem imp_261 (i : Nat) (hi : (i < 18 ∨ 18 < i) ∧ (i < 19 ∨ 19 < i) ∧ (i < 20 ∨ 20 < i) ∧ (i < 21 ∨ 21 < i) ∧ (i < 22 ∨ 22 < i) ∧ (i < 25 ∨ 25 < i) ∧ (i < 26 ∨ 26 < i) ∧ (i < 27 ∨ 27 < i) ∧ (i < 37 ∨ 37 < i) ∧ (i < 42 ∨ 42 < i)) : (i < 42 ∨ 42 < i) := by omega
theorem imp_262 (i : Nat) (hi : (i < 55 ∨ 55 < i) ∧ (i < 66 ∨ 66 < i) ∧ (i < 68 ∨ 69 < i) ∧ (i < 74 ∨ 78 < i)) : i ≠ 55 := by omega
theorem imp_263 (i : Nat) (hi : (i < 18 ∨ 18 < i) ∧ (i < 19 ∨ 19 < i) ∧ (i < 20 ∨ 20 < i) ∧ (i < 21 ∨ 21 < i) ∧ (i < 22 ∨ 22 < i) ∧ (i < 25 ∨ 25 < i) ∧ (i < 26 ∨ 26 < i) ∧ (i < 27 ∨ 27 < i) ∧ (i < 30 ∨ 30 < i) ∧ (i < 31 ∨ 31 < i) ∧ (i < 37 ∨ 37 < i) ∧ (i < 42 ∨ 42 < i)) : i ≠ 31 := by omega
theorem imp_264 (i : Nat) (hi : (i < 18 ∨ 18 < i) ∧ (i < 19 ∨ 19 < i) ∧ (i < 20 ∨ 20 < i) ∧ (i < 21 ∨ 21 < i) ∧ (i < 22 ∨ 22 < i) ∧ (i < 25 ∨ 25 < i) ∧ (i < 26 ∨ 26 < i) ∧ (i < 27 ∨ 27 < i) ∧ (i < 30 ∨ 30 < i) ∧ (i < 31 ∨ 31 < i) ∧ (i < 37 ∨ 37 < i) ∧ (i < 42 ∨ 42 < i)) : i ≠ 30 := by omega
theorem imp_265 (i : Nat) (hi : (i < 18 ∨ 18 < i) ∧ (i < 19 ∨ 19 < i) ∧ (i < 20 ∨ 20 < i) ∧ (i < 21 ∨ 21 < i) ∧ (i < 22 ∨ 22 < i) ∧ (i < 25 ∨ 25 < i) ∧ (i < 26 ∨ 26 < i) ∧ (i < 27 ∨ 27 < i) ∧ (i < 30 ∨ 30 < i) ∧ (i < 31 ∨ 31 < i) ∧ (i < 37 ∨ 37 < i) ∧ (i < 42 ∨ 42 < i)) : (i < 18 ∨ 18 < i) ∧ (i < 19 ∨ 19 < i) ∧ (i < 20 ∨ 20 < i) ∧ (i < 21 ∨ 21 < i) ∧ (i < 22 ∨ 22 < i) ∧ (i < 25 ∨ 25 < i) ∧ (i < 26 ∨ 26 < i) ∧ (i < 27 ∨ 27 < i) ∧ (i < 37 ∨ 37 < i) ∧ (i < 42 ∨ 42 < i) := by omega
theorem imp_266 (i : Nat) (hi : (i < 9 ∨ 9 < i) ∧ (i < 18 ∨ 18 < i) ∧ (i < 19 ∨ 19 < i) ∧ (i < 20 ∨ 20 < i) ∧ (i < 21 ∨ 21 < i) ∧ (i < 22 ∨ 22 < i) ∧ (i < 25 ∨ 25 < i) ∧ (i < 26 ∨ 26 < i) ∧ (i < 27 ∨ 27 < i) ∧ (i < 37 ∨ 37 < i) ∧ (i < 42 ∨ 42 < i)) : i ≠ 9 := by omega
theorem imp_267 (i : Nat) (hi : (i < 9 ∨ 9 < i) ∧ (i < 18 ∨ 18 < i) ∧ (i < 19 ∨ 19 < i) ∧ (i < 20 ∨ 20 < i) ∧ (i < 21 ∨ 21 < i) ∧ (i < 22 ∨ 22 < i) ∧ (i < 25 ∨ 25 < i) ∧ (i < 26 ∨ 26 < i) ∧ (i < 27 ∨ 27 < i) ∧ (i < 37 ∨ 37 < i) ∧ (i < 42 ∨ 42 < i)) : (i < 18 ∨ 18 < i) ∧ (i < 19 ∨ 19 < i) ∧ (i < 20 ∨ 20 < i) ∧ (i < 21 ∨ 21 < i) ∧ (i < 22 ∨ 22 < i) ∧ (i < 25 ∨ 25 < i) ∧ (i < 26 ∨ 26 < i) ∧ (i < 27 ∨ 27 < i) ∧ (i < 37 ∨ 37 < i) ∧ (i < 42 ∨ 42 < i) := by omega
theorem imp_268 (i : Nat) (hi : (i < 18 ∨ 18 < i) ∧ (i < 19 ∨ 19 < i) ∧ (i < 20 ∨ 20 < i) ∧ (i < 21 ∨ 21 < i) ∧ (i < 22 ∨ 22 < i) ∧ (i < 25 ∨ 25 < i) ∧ (i < 26 ∨ 26 < i) ∧ (i < 27 ∨ 27 < i) ∧ (i < 37 ∨ 37 < i) ∧ (i < 42 ∨ 42 < i)) : (i < 18 ∨ 18 < i) ∧ (i < 19 ∨ 19 < i) ∧ (i < 20 ∨ 20 < i) ∧ (i < 21 ∨ 21 < i) ∧ (i < 22 ∨ 22 < i) ∧ (i < 25 ∨ 25 < i) ∧ (i < 26 ∨ 26 < i) ∧ (i < 27 ∨ 27 < i) ∧ (i < 37 ∨ 37 < i) := by omega
theorem imp_269 (i : Nat) (hi : (i < 18 ∨ 18 < i) ∧ (i < 19 ∨ 19 < i) ∧ (i < 20 ∨ 20 < i) ∧ (i < 21 ∨ 21 < i) ∧ (i < 22 ∨ 22 < i) ∧ (i < 25 ∨ 25 < i) ∧ (i < 26 ∨ 26 < i) ∧ (i < 27 ∨ 27 < i) ∧ (i < 37 ∨ 37 < i)) : (i < 25 ∨ 25 < i) ∧ (i < 26 ∨ 26 < i) ∧ (i < 27 ∨ 27 < i) := by omega
theorem imp_270 (i : Nat) (hi : (i < 18 ∨ 18 < i) ∧ (i < 19 ∨ 19 < i) ∧ (i < 20 ∨ 20 < i) ∧ (i < 21 ∨ 21 < i) ∧ (i < 22 ∨ 22 < i) ∧ (i < 25 ∨ 25 < i) ∧ (i < 26 ∨ 26 < i) ∧ (i < 27 ∨ 27 < i) ∧ (i < 37 ∨ 37 < i)) : (i < 18 ∨ 18 < i) ∧ (i < 19 ∨ 19 < i) ∧ (i < 20 ∨ 20 < i) ∧ (i < 21 ∨ 21 < i) ∧ (i < 22 ∨ 22 < i) ∧ (i < 37 ∨ 37 < i) := by omega
theorem imp_271 (i : Nat) (hi : (i < 55 ∨ 55 < i) ∧ (i < 62 ∨ 62 < i) ∧ (i < 66 ∨ 66 < i) ∧ (i < 68 ∨ 69 < i) ∧ (i < 74 ∨ 78 < i)) : (i < 55 ∨ 55 < i) ∧ (i < 66 ∨ 66 < i) ∧ (i < 68 ∨ 69 < i) ∧ (i < 74 ∨ 78 < i) := by omega
theorem imp_272 (i : Nat) (hi : (i < 18 ∨ 18 < i) ∧ (i < 19 ∨ 19 < i) ∧ (i < 20 ∨ 20 < i) ∧ (i < 21 ∨ 21 < i) ∧ (i < 22 ∨ 22 < i) ∧ (i < 25 ∨ 25 < i) ∧ (i < 26 ∨ 26 < i) ∧ (i < 27 ∨ 27 < i) ∧ (i < 37 ∨ 37 < i) ∧ (i < 42 ∨ 42 < i) ∧ (i < 45 ∨ 45 < i) ∧ (i < 46 ∨ 46 < i)) : (i < 18 ∨ 18 < i) ∧ (i < 19 ∨ 19 < i) ∧ (i < 20 ∨ 20 < i) ∧ (i < 21 ∨ 21 < i) ∧ (i < 22 ∨ 22 < i) ∧ (i < 25 ∨ 25 < i) ∧ (i < 26 ∨ 26 < i) ∧ (i < 27 ∨ 27 < i) ∧ (i < 37 ∨ 37 < i) ∧ (i < 42 ∨ 42 < i) := by omega
theorem imp_273 (i : Nat) (hi : (i < 55 ∨ 55 < i) ∧ (i < 62 ∨ 62 < i) ∧ (i < 66 ∨ 66 < i) ∧ (i < 68 ∨ 69 < i) ∧ (i < 74 ∨ 78 < i)) : i ≠ 55 := by omega
theorem imp_274 (i : Nat) (hi : (i < 18 ∨ 18 < i) ∧ (i < 19 ∨ 19 < i) ∧ (i < 20 ∨ 20 < i) ∧ (i < 21 ∨ 21 < i) ∧ (i < 22 ∨ 22 < i) ∧ (i < 25 ∨ 25 < i) ∧ (i < 26 ∨ 26 < i) ∧ (i < 27 ∨ 27 < i) ∧ (i < 37 ∨ 37 < i) ∧ (i < 42 ∨ 42 < i) ∧ (i < 45 ∨ 45 < i) ∧ (i < 46 ∨ 46 < i)) : i ≠ 45 := by omega
theorem imp_275 (i : Nat) (hi : (i < 18 ∨ 18 < i) ∧ (i < 19 ∨ 19 < i) ∧ (i < 20 ∨ 20 < i) ∧ (i < 21 ∨ 21 < i) ∧ (i < 22 ∨ 22 < i) ∧ (i < 25 ∨ 25 < i) ∧ (i < 26 ∨ 26 < i) ∧ (i < 27 ∨ 27 < i) ∧ (i < 37 ∨ 37 < i) ∧ (i < 42 ∨ 42 < i) ∧ (i < 45 ∨ 45 < i) ∧ (i < 46 ∨ 46 < i)) : i ≠ 46 := by omega
theorem imp_276 (i : Nat) (hi : (i < 55 ∨ 55 < i) ∧ (i < 62 ∨ 62 < i) ∧ (i < 66 ∨ 66 < i) ∧ (i < 68 ∨ 69 < i) ∧ (i < 74 ∨ 78 < i)) : i ≠ 62 := by omega
theorem imp_277 (i : Nat) (hi : (i < 55 ∨ 55 < i) ∧ (i < 62 ∨ 62 < i) ∧ (i < 66 ∨ 66 < i) ∧ (i < 68 ∨ 69 < i) ∧ (i < 74 ∨ 79 < i)) : (i < 62 ∨ 62 < i) := by omega
theorem imp_278 (i : Nat) (hi : (i < 55 ∨ 55 < i) ∧ (i < 62 ∨ 62 < i) ∧ (i < 66 ∨ 66 < i) ∧ (i < 68 ∨ 69 < i) ∧ (i < 74 ∨ 79 < i)) : (i < 55 ∨ 55 < i) ∧ (i < 62 ∨ 62 < i) ∧ (i < 66 ∨ 66 < i) ∧ (i < 68 ∨ 69 < i) ∧ (i < 74 ∨ 78 < i) := by omega
theorem imp_279 (i : Nat) (hi : (i < 55 ∨ 55 < i) ∧ (i < 62 ∨ 62 < i) ∧ (i < 66 ∨ 66 < i) ∧ (i < 68 ∨ 69 < i) ∧ (i < 74 ∨ 79 < i)) : i ≠ 55 := by omega
theorem imp_280 (i : Nat) (hi : (i < 55 ∨ 55 < i) ∧ (i < 62 ∨ 62 < i) ∧ (i < 66 ∨ 66 < i) ∧ (i < 68 ∨ 69 < i) ∧ (i < 74 ∨ 79 < i)) : (i < 79 ∨ 79 < i) := by omega
theorem imp_281 (i : Nat) (hi : (i < 79 ∨ 79 < i)) : i ≠ 79 := by omega
theorem imp_282 (i : Nat) (hi : (i < 55 ∨ 55 < i) ∧ (i < 66 ∨ 66 < i) ∧ (i < 68 ∨ 69 < i) ∧ (i < 74 ∨ 78 < i) ∧ (i < 82 ∨ 84 < i)) : i ≠ 55 := by omega
theorem imp_283 (i : Nat) (hi : (i < 55 ∨ 55 < i) ∧ (i < 66 ∨ 66 < i) ∧ (i < 68 ∨ 69 < i) ∧ (i < 74 ∨ 78 < i) ∧ (i < 82 ∨ 84 < i)) : (i < 55 ∨ 55 < i) := by omega
theorem imp_284 (i : Nat) (hi : (i < 55 ∨ 55 < i) ∧ (i < 66 ∨ 66 < i) ∧ (i < 68 ∨ 69 < i) ∧ (i < 74 ∨ 78 < i) ∧ (i < 82 ∨ 84 < i)) : (i < 55 ∨ 55 < i) ∧ (i < 68 ∨ 69 < i) := by omega
theorem imp_285 (i : Nat) (hi : (i < 18 ∨ 18 < i) ∧ (i < 19 ∨ 19 < i) ∧ (i < 20 ∨ 20 < i) ∧ (i < 21 ∨ 21 < i) ∧ (i < 22 ∨ 22 < i) ∧ (i < 25 ∨ 25 < i) ∧ (i < 26 ∨ 26 < i) ∧ (i < 27 ∨ 27 < i) ∧ (i < 37 ∨ 37 < i) ∧ (i < 42 ∨ 42 < i) ∧ (i < 50 ∨ 50 < i)) : (i < 18 ∨ 18 < i) ∧ (i < 19 ∨ 19 < i) ∧ (i < 20 ∨ 20 < i) ∧ (i < 21 ∨ 21 < i) ∧ (i < 22 ∨ 22 < i) ∧ (i < 25 ∨ 25 < i) ∧ (i < 26 ∨ 26 < i) ∧ (i < 27 ∨ 27 < i) ∧ (i < 37 ∨ 37 < i) ∧ (i < 50 ∨ 50 < i) := by omega
theorem imp_286 (i : Nat) (hi : (i < 18 ∨ 18 < i) ∧ (i < 19 ∨ 19 < i) ∧ (i < 20 ∨ 20 < i) ∧ (i < 21 ∨ 21 < i) ∧ (i < 22 ∨ 22 < i) ∧ (i < 25 ∨ 25 < i) ∧ (i < 26 ∨ 26 < i) ∧ (i < 27 ∨ 27 < i) ∧ (i < 37 ∨ 37 < i) ∧ (i < 42 ∨ 42 < i) ∧ (i < 50 ∨ 50 < i)) : i ≠ 50 := by omega
theorem imp_287 (i : Nat) (hi : (i < 18 ∨ 18 < i) ∧ (i < 19 ∨ 19 < i) ∧ (i < 20 ∨ 20 < i) ∧ (i < 21 ∨ 21 < i) ∧ (i < 22 ∨ 22 < i) ∧ (i < 25 ∨ 25 < i) ∧ (i < 26 ∨ 26 < i) ∧ (i < 27 ∨ 27 < i) ∧ (i < 37 ∨ 37 < i) ∧ (i < 42 ∨ 42 < i) ∧ (i < 50 ∨ 50 < i)) : (i < 42 ∨ 42 < i) := by omega
theorem imp_288 (i : Nat) (hi : (i < 18 ∨ 18 < i) ∧ (i < 19 ∨ 19 < i) ∧ (i < 20 ∨ 20 < i) ∧ (i < 21 ∨ 21 < i) ∧ (i < 22 ∨ 22 < i) ∧ (i < 25 ∨ 25 < i) ∧ (i < 26 ∨ 26 < i) ∧ (i < 27 ∨ 27 < i) ∧ (i < 37 ∨ 37 < i) ∧ (i < 42 ∨ 42 < i) ∧ (i < 50 ∨ 50 < i)) : (i < 25 ∨ 25 < i) ∧ (i < 26 ∨ 26 < i) ∧ (i < 27 ∨ 27 < i) := by omega
theorem imp_289 (i : Nat) (hi : (i < 55 ∨ 55 < i) ∧ (i < 66 ∨ 66 < i) ∧ (i < 68 ∨ 69 < i) ∧ (i < 74 ∨ 78 < i) ∧ (i < 82 ∨ 84 < i)) : i ≠ 84 := by omega
theorem imp_290 (i : Nat) (hi : (i < 55 ∨ 55 < i) ∧ (i < 66 ∨ 66 < i) ∧ (i < 68 ∨ 69 < i) ∧ (i < 74 ∨ 78 < i) ∧ (i < 82 ∨ 84 < i)) : i ≠ 83 := by omega
theorem imp_291 (i : Nat) (hi : (i < 55 ∨ 55 < i) ∧ (i < 66 ∨ 66 < i) ∧ (i < 68 ∨ 69 < i) ∧ (i < 74 ∨ 78 < i) ∧ (i < 82 ∨ 84 < i)) : i ≠ 82 := by omega
theorem imp_292 (i : Nat) (hi : (i < 55 ∨ 55 < i) ∧ (i < 66 ∨ 66 < i) ∧ (i < 68 ∨ 69 < i) ∧ (i < 74 ∨ 78 < i) ∧ (i < 82 ∨ 84 < i)) : (i < 55 ∨ 55 < i) ∧ (i < 66 ∨ 66 < i) := by omega
theorem imp_293 (i : Nat) (hi : (i < 55 ∨ 55 < i) ∧ (i < 66 ∨ 66 < i) ∧ (i < 68 ∨ 69 < i) ∧ (i < 74 ∨ 78 < i) ∧ (i < 82 ∨ 84 < i)) : (i < 55 ∨ 55 < i) ∧ (i < 66 ∨ 66 < i) ∧ (i < 74 ∨ 78 < i) := by omega
theorem imp_294 (i : Nat) (hi : (i < 18 ∨ 18 < i) ∧ (i < 19 ∨ 19 < i) ∧ (i < 20 ∨ 20 < i) ∧ (i < 21 ∨ 21 < i) ∧ (i < 22 ∨ 22 < i) ∧ (i < 25 ∨ 25 < i) ∧ (i < 26 ∨ 26 < i) ∧ (i < 27 ∨ 27 < i) ∧ (i < 37 ∨ 37 < i) ∧ (i < 50 ∨ 50 < i)) : i ≠ 50 := by omega
theorem imp_295 (i : Nat) (hi : (i < 18 ∨ 18 < i) ∧ (i < 19 ∨ 19 < i) ∧ (i < 20 ∨ 20 < i) ∧ (i < 21 ∨ 21 < i) ∧ (i < 22 ∨ 22 < i) ∧ (i < 25 ∨ 25 < i) ∧ (i < 26 ∨ 26 < i) ∧ (i < 27 ∨ 27 < i) ∧ (i < 37 ∨ 37 < i) ∧ (i < 50 ∨ 50 < i)) : (i < 25 ∨ 25 < i) ∧ (i < 26 ∨ 26 < i) ∧ (i < 27 ∨ 27 < i) := by omega
theorem imp_296 (i : Nat) (hi : (i < 18 ∨ 18 < i) ∧ (i < 19 ∨ 19 < i) ∧ (i < 20 ∨ 20 < i) ∧ (i < 21 ∨ 21 < i) ∧ (i < 22 ∨ 22 < i) ∧ (i < 25 ∨ 25 < i) ∧ (i < 26 ∨ 26 < i) ∧ (i < 27 ∨ 27 < i) ∧ (i < 37 ∨ 37 < i) ∧ (i < 50 ∨ 50 < i)) : (i < 18 ∨ 18 < i) ∧ (i < 19 ∨ 19 < i) ∧ (i < 20 ∨ 20 < i) ∧ (i < 21 ∨ 21 < i) ∧ (i < 22 ∨ 22 < i) := by omega
theorem imp_297 (i : Nat) (hi : (i < 18 ∨ 18 < i) ∧ (i < 19 ∨ 19 < i) ∧ (i < 20 ∨ 20 < i) ∧ (i < 21 ∨ 21 < i) ∧ (i < 22 ∨ 22 < i) ∧ (i < 25 ∨ 25 < i) ∧ (i < 26 ∨ 26 < i) ∧ (i < 27 ∨ 27 < i) ∧ (i < 37 ∨ 37 < i) ∧ (i < 50 ∨ 50 < i)) : (i < 18 ∨ 18 < i) ∧ (i < 19 ∨ 19 < i) ∧ (i < 20 ∨ 20 < i) ∧ (i < 21 ∨ 21 < i) ∧ (i < 22 ∨ 22 < i) ∧ (i < 37 ∨ 37 < i) := by omega
theorem imp_298 (i : Nat) (hi : (i < 86 ∨ 87 < i)) : i ≠ 87 := by omega
theorem imp_299 (i : Nat) (hi : (i < 86 ∨ 87 < i)) : i ≠ 86 := by omega
theorem imp_300 (i : Nat) (hi : (i < 86 ∨ 87 < i)) : (0 = 0) := by omega
theorem imp_301 (i : Nat) (hi : (i < 88 ∨ 88 < i)) : i ≠ 88 := by omega
theorem imp_302 (i : Nat) (hi : (i < 88 ∨ 89 < i)) : (i < 88 ∨ 88 < i) := by omega
theorem imp_303 (i : Nat) (hi : (i < 88 ∨ 89 < i)) : (i < 89 ∨ 89 < i) := by omega
theorem imp_304 (i : Nat) (hi : (i < 89 ∨ 89 < i)) : i ≠ 89 := by omega
theorem imp_305 (i : Nat) (hi : (i < 38 ∨ 38 < i) ∧ (i < 42 ∨ 42 < i)) : i ≠ 38 := by omega
theorem imp_306 (i : Nat) (hi : (i < 38 ∨ 38 < i) ∧ (i < 42 ∨ 42 < i)) : i ≠ 42 := by omega
theorem imp_307 (i : Nat) (hi : (i < 0 ∨ 0 < i) ∧ (i < 1 ∨ 1 < i)) : (i < 1 ∨ 1 < i) := by omega
theorem imp_308 (i : Nat) (hi : (i < 3 ∨ 3 < i)) : i ≠ 3 := by omega
theorem imp_309 (i : Nat) (hi : (i < 0 ∨ 0 < i) ∧ (i < 1 ∨ 1 < i) ∧ (i < 2 ∨ 2 < i) ∧ (i < 3 ∨ 3 < i)) : (i < 3 ∨ 3 < i) := by omega
theorem imp_310 (i : Nat) (hi : (i < 0 ∨ 0 < i) ∧ (i < 1 ∨ 1 < i) ∧ (i < 2 ∨ 2 < i) ∧ (i < 3 ∨ 3 < i)) : (i < 1 ∨ 1 < i) ∧ (i < 2 ∨ 2 < i) := by omega
theorem imp_311 (i : Nat) (hi : (i < 0 ∨ 0 < i) ∧ (i < 1 ∨ 1 < i) ∧ (i < 2 ∨ 2 < i) ∧ (i < 3 ∨ 3 < i)) : i ≠ 0 := by omega
theorem imp_312 (i : Nat) (hi : (i < 2 ∨ 2 < i) ∧ (i < 3 ∨ 3 < i)) : (i < 3 ∨ 3 < i) := by omega
theorem imp_313 (i : Nat) (hi : (i < 1 ∨ 1 < i) ∧ (i < 2 ∨ 2 < i) ∧ (i < 3 ∨ 3 < i)) : (i < 2 ∨ 2 < i) ∧ (i < 3 ∨ 3 < i) := by omega
theorem imp_314 (i : Nat) (hi : (i < 1 ∨ 1 < i) ∧ (i < 2 ∨ 2 < i) ∧ (i < 3 ∨ 3 < i)) : i ≠ 1 := by omega
theorem imp_315 (i : Nat) (hi : (i < 4 ∨ 4 < i)) : i ≠ 4 := by omega
theorem imp_316 (i : Nat) (hi : (i < 0 ∨ 0 < i) ∧ (i < 1 ∨ 1 < i) ∧ (i < 2 ∨ 2 < i) ∧ (i < 3 ∨ 3 < i) ∧ (i < 4 ∨ 4 < i)) : (i < 4 ∨ 4 < i) := by omega
theorem imp_317 (i : Nat) (hi : (i < 0 ∨ 0 < i) ∧ (i < 1 ∨ 1 < i) ∧ (i < 2 ∨ 2 < i) ∧ (i < 3 ∨ 3 < i) ∧ (i < 4 ∨ 4 < i)) : (i < 1 ∨ 1 < i) ∧ (i < 2 ∨ 2 < i) ∧ (i < 3 ∨ 3 < i) := by omega
theorem imp_318 (i : Nat) (hi : (i < 0 ∨ 0 < i) ∧ (i < 1 ∨ 1 < i) ∧ (i < 2 ∨ 2 < i) ∧ (i < 3 ∨ 3 < i) ∧ (i < 4 ∨ 4 < i)) : i ≠ 0 := by omega
theorem imp_319 (i : Nat) (hi : (i < 3 ∨ 3 < i) ∧ (i < 4 ∨ 4 < i)) : (i < 4 ∨ 4 < i) := by omega
theorem imp_320 (i : Nat) (hi : (i < 3 ∨ 3 < i) ∧ (i < 4 ∨ 4 < i)) : i ≠ 3 := by omega
theorem imp_321 (i : Nat) (hi : (i < 0 ∨ 0 < i) ∧ (i < 1 ∨ 1 < i) ∧ (i < 2 ∨ 2 < i) ∧ (i < 3 ∨ 3 < i) ∧ (i < 4 ∨ 4 < i)) : (i < 3 ∨ 3 < i) ∧ (i < 4 ∨ 4 < i) := by omega
theorem imp_322 (i : Nat) (hi : (i < 0 ∨ 0 < i) ∧ (i < 1 ∨ 1 < i) ∧ (i < 2 ∨ 2 < i) ∧ (i < 3 ∨ 3 < i) ∧ (i < 4 ∨ 4 < i)) : (i < 1 ∨ 1 < i) ∧ (i < 2 ∨ 2 < i) := by omega
theorem imp_323 (i : Nat) (hi : (i < 4 ∨ 4 < i) ∧ (i < 5 ∨ 5 < i)) : (i < 5 ∨ 5 < i) := by omega
theorem imp_324 (i : Nat) (hi : (i < 0 ∨ 0 < i) ∧ (i < 1 ∨ 1 < i) ∧ (i < 2 ∨ 2 < i) ∧ (i < 3 ∨ 3 < i) ∧ (i < 4 ∨ 4 < i) ∧ (i < 5 ∨ 5 < i)) : (i < 4 ∨ 4 < i) ∧ (i < 5 ∨ 5 < i) := by omega
theorem imp_325 (i : Nat) (hi : (i < 0 ∨ 0 < i) ∧ (i < 1 ∨ 1 < i) ∧ (i < 2 ∨ 2 < i) ∧ (i < 3 ∨ 3 < i) ∧ (i < 4 ∨ 4 < i) ∧ (i < 5 ∨ 5 < i)) : (i < 1 ∨ 1 < i) ∧ (i < 2 ∨ 2 < i) ∧ (i < 3 ∨ 3 < i) := by omega
theorem imp_326 (i : Nat) (hi : (i < 0 ∨ 0 < i) ∧ (i < 1 ∨ 1 < i) ∧ (i < 2 ∨ 2 < i) ∧ (i < 3 ∨ 3 < i) ∧ (i < 4 ∨ 4 < i) ∧ (i < 5 ∨ 5 < i)) : i ≠ 0 := by omega
theorem imp_327 (i : Nat) (hi : (i < 0 ∨ 0 < i) ∧ (i < 1 ∨ 1 < i) ∧ (i < 2 ∨ 2 < i) ∧ (i < 3 ∨ 3 < i)) : (i < 1 ∨ 1 < i) ∧ (i < 2 ∨ 2 < i) ∧ (i < 3 ∨ 3 < i) := by omega
theorem imp_328 (i : Nat) (hi : (i < 3 ∨ 3 < i) ∧ (i < 4 ∨ 4 < i) ∧ (i < 5 ∨ 5 < i)) : (i < 4 ∨ 4 < i) ∧ (i < 5 ∨ 5 < i) := by omega
theorem imp_329 (i : Nat) (hi : (i < 3 ∨ 3 < i) ∧ (i < 4 ∨ 4 < i) ∧ (i < 5 ∨ 5 < i)) : i ≠ 3 := by omega
theorem imp_330 (i : Nat) (hi : (i < 2 ∨ 2 < i) ∧ (i < 3 ∨ 3 < i) ∧ (i < 4 ∨ 4 < i) ∧ (i < 5 ∨ 5 < i)) : (i < 3 ∨ 3 < i) ∧ (i < 4 ∨ 4 < i) ∧ (i < 5 ∨ 5 < i) := by omega
theorem imp_331 (i : Nat) (hi : (i < 2 ∨ 2 < i) ∧ (i < 3 ∨ 3 < i) ∧ (i < 4 ∨ 4 < i) ∧ (i < 5 ∨ 5 < i)) : i ≠ 2 := by omega
theorem imp_332 (i : Nat) (hi : (i < 1 ∨ 1 < i) ∧ (i < 2 ∨ 2 < i) ∧ (i < 3 ∨ 3 < i) ∧ (i < 4 ∨ 4 < i) ∧ (i < 5 ∨ 5 < i) ∧ (i < 6 ∨ 6 < i)) : (i < 6 ∨ 6 < i) := by omega
theorem imp_333 (i : Nat) (hi : (i < 1 ∨ 1 < i) ∧ (i < 2 ∨ 2 < i) ∧ (i < 3 ∨ 3 < i) ∧ (i < 4 ∨ 4 < i) ∧ (i < 5 ∨ 5 < i) ∧ (i < 6 ∨ 6 < i)) : (i < 2 ∨ 2 < i) ∧ (i < 3 ∨ 3 < i) ∧ (i < 4 ∨ 4 < i) ∧ (i < 5 ∨ 5 < i) := by omega
theorem imp_334 (i : Nat) (hi : (i < 1 ∨ 1 < i) ∧ (i < 2 ∨ 2 < i) ∧ (i < 3 ∨ 3 < i) ∧ (i < 4 ∨ 4 < i) ∧ (i < 5 ∨ 5 < i) ∧ (i < 6 ∨ 6 < i)) : i ≠ 1 := by omega
theorem imp_335 (i : Nat) (hi : (i < 0 ∨ 0 < i) ∧ (i < 1 ∨ 1 < i) ∧ (i < 2 ∨ 2 < i) ∧ (i < 3 ∨ 3 < i) ∧ (i < 4 ∨ 4 < i) ∧ (i < 5 ∨ 5 < i) ∧ (i < 6 ∨ 6 < i)) : (i < 1 ∨ 1 < i) ∧ (i < 2 ∨ 2 < i) ∧ (i < 3 ∨ 3 < i) ∧ (i < 4 ∨ 4 < i) ∧ (i < 5 ∨ 5 < i) ∧ (i < 6 ∨ 6 < i) := by omega
theorem imp_336 (i : Nat) (hi : (i < 0 ∨ 0 < i) ∧ (i < 1 ∨ 1 < i) ∧ (i < 2 ∨ 2 < i) ∧ (i < 3 ∨ 3 < i) ∧ (i < 4 ∨ 4 < i) ∧ (i < 5 ∨ 5 < i) ∧ (i < 6 ∨ 6 < i)) : i ≠ 0 := by omega
theorem imp_337 (i : Nat) (hi : (i < 5 ∨ 5 < i) ∧ (i < 6 ∨ 6 < i)) : (i < 6 ∨ 6 < i) := by omega
theorem imp_338 (i : Nat) (hi : (i < 5 ∨ 5 < i) ∧ (i < 6 ∨ 6 < i)) : i ≠ 5 := by omega
theorem imp_339 (i : Nat) (hi : (i < 4 ∨ 4 < i) ∧ (i < 5 ∨ 5 < i) ∧ (i < 6 ∨ 6 < i) ∧ (i < 7 ∨ 7 < i)) : (i < 7 ∨ 7 < i) := by omega
theorem imp_340 (i : Nat) (hi : (i < 4 ∨ 4 < i) ∧ (i < 5 ∨ 5 < i) ∧ (i < 6 ∨ 6 < i) ∧ (i < 7 ∨ 7 < i)) : (i < 5 ∨ 5 < i) ∧ (i < 6 ∨ 6 < i) := by omega
theorem imp_341 (i : Nat) (hi : (i < 4 ∨ 4 < i) ∧ (i < 5 ∨ 5 < i) ∧ (i < 6 ∨ 6 < i) ∧ (i < 7 ∨ 7 < i)) : i ≠ 4 := by omega
theorem imp_342 (i : Nat) (hi : (i < 0 ∨ 0 < i) ∧ (i < 1 ∨ 1 < i) ∧ (i < 2 ∨ 2 < i) ∧ (i < 3 ∨ 3 < i) ∧ (i < 4 ∨ 4 < i) ∧ (i < 5 ∨ 5 < i) ∧ (i < 6 ∨ 6 < i) ∧ (i < 7 ∨ 7 < i)) : (i < 4 ∨ 4 < i) ∧ (i < 5 ∨ 5 < i) ∧ (i < 6 ∨ 6 < i) ∧ (i < 7 ∨ 7 < i) := by omega
theorem imp_343 (i : Nat) (hi : (i < 0 ∨ 0 < i) ∧ (i < 1 ∨ 1 < i) ∧ (i < 2 ∨ 2 < i) ∧ (i < 3 ∨ 3 < i) ∧ (i < 4 ∨ 4 < i) ∧ (i < 5 ∨ 5 < i) ∧ (i < 6 ∨ 6 < i) ∧ (i < 7 ∨ 7 < i)) : (i < 1 ∨ 1 < i) ∧ (i < 2 ∨ 2 < i) ∧ (i < 3 ∨ 3 < i) := by omega
theorem imp_344 (i : Nat) (hi : (i < 0 ∨ 0 < i) ∧ (i < 1 ∨ 1 < i) ∧ (i < 2 ∨ 2 < i) ∧ (i < 3 ∨ 3 < i) ∧ (i < 4 ∨ 4 < i) ∧ (i < 5 ∨ 5 < i) ∧ (i < 6 ∨ 6 < i) ∧ (i < 7 ∨ 7 < i)) : i ≠ 0 := by omega
theorem imp_345 (i : Nat) (hi : (i < 1 ∨ 1 < i) ∧ (i < 2 ∨ 2 < i) ∧ (i < 3 ∨ 3 < i) ∧ (i < 4 ∨ 4 < i)) : (i < 4 ∨ 4 < i) := by omega
theorem imp_346 (i : Nat) (hi : (i < 1 ∨ 1 < i) ∧ (i < 2 ∨ 2 < i) ∧ (i < 3 ∨ 3 < i) ∧ (i < 4 ∨ 4 < i)) : (i < 2 ∨ 2 < i) ∧ (i < 3 ∨ 3 < i) := by omega
theorem imp_347 (i : Nat) (hi : (i < 1 ∨ 1 < i) ∧ (i < 2 ∨ 2 < i) ∧ (i < 3 ∨ 3 < i) ∧ (i < 4 ∨ 4 < i)) : i ≠ 1 := by omega
theorem imp_348 (i : Nat) (hi : (i < 0 ∨ 0 < i) ∧ (i < 1 ∨ 1 < i) ∧ (i < 2 ∨ 2 < i) ∧ (i < 3 ∨ 3 < i) ∧ (i < 4 ∨ 4 < i) ∧ (i < 5 ∨ 5 < i)) : (i < 5 ∨ 5 < i) := by omega
theorem imp_349 (i : Nat) (hi : (i < 0 ∨ 0 < i) ∧ (i < 1 ∨ 1 < i) ∧ (i < 2 ∨ 2 < i) ∧ (i < 3 ∨ 3 < i) ∧ (i < 4 ∨ 4 < i) ∧ (i < 5 ∨ 5 < i)) : (i < 1 ∨ 1 < i) ∧ (i < 2 ∨ 2 < i) ∧ (i < 3 ∨ 3 < i) ∧ (i < 4 ∨ 4 < i) := by omega
theorem imp_350 (i : Nat) (hi : (i < 55 ∨ 55 < i) ∧ (i < 85 ∨ 85 < i)) : i ≠ 55 := by omega
theorem imp_351 (i : Nat) (hi : (i < 55 ∨ 55 < i) ∧ (i < 85 ∨ 85 < i)) : i ≠ 85 := by omega
theorem imp_352 (i : Nat) (hi : (i < 0 ∨ 0 < i) ∧ (i < 1 ∨ 1 < i)) : (i < 0 ∨ 0 < i) := by omega
theorem imp_353 (i : Nat) (hi : (i < 0 ∨ 0 < i) ∧ (i < 1 ∨ 1 < i) ∧ (i < 2 ∨ 2 < i) ∧ (i < 3 ∨ 3 < i)) : (i < 0 ∨ 0 < i) := by omega
theorem imp_354 (i : Nat) (hi : (i < 0 ∨ 0 < i) ∧ (i < 1 ∨ 1 < i) ∧ (i < 2 ∨ 2 < i)) : (i < 0 ∨ 0 < i) := by omega
theorem imp_355 (i : Nat) (hi : (i < 1 ∨ 1 < i) ∧ (i < 2 ∨ 2 < i) ∧ (i < 3 ∨ 3 < i)) : (i < 1 ∨ 1 < i) := by omega
theorem imp_356 (i : Nat) (hi : (i < 0 ∨ 0 < i) ∧ (i < 1 ∨ 1 < i) ∧ (i < 2 ∨ 2 < i) ∧ (i < 3 ∨ 3 < i) ∧ (i < 4 ∨ 4 < i)) : (i < 0 ∨ 0 < i) := by omega
theorem imp_357 (i : Nat) (hi : (i < 3 ∨ 3 < i) ∧ (i < 4 ∨ 4 < i)) : (i < 3 ∨ 3 < i) := by omega
theorem imp_358 (i : Nat) (hi : (i < 4 ∨ 4 < i) ∧ (i < 5 ∨ 5 < i)) : (i < 4 ∨ 4 < i) := by omega
theorem imp_359 (i : Nat) (hi : (i < 0 ∨ 0 < i) ∧ (i < 1 ∨ 1 < i) ∧ (i < 2 ∨ 2 < i) ∧ (i < 3 ∨ 3 < i) ∧ (i < 4 ∨ 4 < i) ∧ (i < 5 ∨ 5 < i)) : (i < 0 ∨ 0 < i) := by omega
theorem imp_360 (i : Nat) (hi : (i < 3 ∨ 3 < i) ∧ (i < 4 ∨ 4 < i) ∧ (i < 5 ∨ 5 < i)) : (i < 3 ∨ 3 < i) := by omega
theorem imp_361 (i : Nat) (hi : (i < 2 ∨ 2 < i) ∧ (i < 3 ∨ 3 < i) ∧ (i < 4 ∨ 4 < i) ∧ (i < 5 ∨ 5 < i)) : (i < 2 ∨ 2 < i) := by omega
theorem imp_362 (i : Nat) (hi : (i < 1 ∨ 1 < i) ∧ (i < 2 ∨ 2 < i) ∧ (i < 3 ∨ 3 < i) ∧ (i < 4 ∨ 4 < i) ∧ (i < 5 ∨ 5 < i) ∧ (i < 6 ∨ 6 < i)) : (i < 1 ∨ 1 < i) := by omega
theorem imp_363 (i : Nat) (hi : (i < 0 ∨ 0 < i) ∧ (i < 1 ∨ 1 < i) ∧ (i < 2 ∨ 2 < i) ∧ (i < 3 ∨ 3 < i) ∧ (i < 4 ∨ 4 < i) ∧ (i < 5 ∨ 5 < i) ∧ (i < 6 ∨ 6 < i)) : (i < 0 ∨ 0 < i) := by omega
theorem imp_364 (i : Nat) (hi : (i < 5 ∨ 5 < i) ∧ (i < 6 ∨ 6 < i)) : (i < 5 ∨ 5 < i) := by omega
theorem imp_365 (i : Nat) (hi : (i < 4 ∨ 4 < i) ∧ (i < 5 ∨ 5 < i) ∧ (i < 6 ∨ 6 < i) ∧ (i < 7 ∨ 7 < i)) : (i < 4 ∨ 4 < i) := by omega
theorem imp_366 (i : Nat) (hi : (i < 0 ∨ 0 < i) ∧ (i < 1 ∨ 1 < i) ∧ (i < 2 ∨ 2 < i) ∧ (i < 3 ∨ 3 < i) ∧ (i < 4 ∨ 4 < i) ∧ (i < 5 ∨ 5 < i) ∧ (i < 6 ∨ 6 < i) ∧ (i < 7 ∨ 7 < i)) : (i < 0 ∨ 0 < i) := by omega
theorem imp_367 (i : Nat) (hi : (i < 1 ∨ 1 < i) ∧ (i < 2 ∨ 2 < i) ∧ (i < 3 ∨ 3 < i) ∧ (i < 4 ∨ 4 < i)) : (i < 1 ∨ 1 < i) := by omega
theorem imp_368 (i : Nat) (hi : (i < 55 ∨ 55 < i) ∧ (i < 56 ∨ 56 < i) ∧ (i < 57 ∨ 57 < i)) : (i < 55 ∨ 55 < i) := by omega
theorem imp_369 (i : Nat) (hi : (i < 55 ∨ 55 < i) ∧ (i < 56 ∨ 56 < i) ∧ (i < 57 ∨ 57 < i)) : i ≠ 57 := by omega
theorem imp_370 (i : Nat) (hi : (i < 55 ∨ 55 < i) ∧ (i < 56 ∨ 56 < i) ∧ (i < 57 ∨ 57 < i)) : i ≠ 56 := by omega
theorem imp_371 (i : Nat) (hi : (i < 55 ∨ 55 < i) ∧ (i < 56 ∨ 56 < i) ∧ (i < 57 ∨ 57 < i)) : i ≠ 55 := by omega
