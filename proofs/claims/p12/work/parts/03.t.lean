def dk (c : ByteArray) (p : Nat) (i : Instr) (n : Nat) : Bool := decide (decode c p = .ok (i, n))
theorem dk_and {a b : Bool} (h : (a && b) = true) : a = true ∧ b = true := by simpa using h
theorem dk_of {c : ByteArray} {p : Nat} {i : Instr} {n : Nat} (h : dk c p i n = true) : decode c p = .ok (i, n) := of_decide_eq_true h
theorem dch_16 : (dk cX11_init 0 (.aload_n 0) 1 && (dk cX11_init 1 (.invokespecial 1) 3 && (dk cX11_init 4 (.aload_n 0) 1 && (dk cX11_init 5 (.new 7) 3 && (dk cX11_init 8 (.dup) 1 && (dk cX11_init 9 (.invokespecial 9) 3 && (dk cX11_init 12 (.putfield 10) 3 && (dk cX11_init 15 (.aload_n 0) 1 && (dk cX11_init 16 (.new 16) 3 && (dk cX11_init 19 (.dup) 1 && (dk cX11_init 20 (.invokespecial 18) 3 && (dk cX11_init 23 (.putfield 19) 3 && (dk cX11_init 26 (.aload_n 0) 1 && (dk cX11_init 27 (.new 23) 3 && (dk cX11_init 30 (.dup) 1 && dk cX11_init 31 (.invokespecial 25) 3))))))))))))))) = true := by decide +kernel
theorem dX11_init_0 : decode cX11_init 0 = .ok (.aload_n 0, 1) := dk_of (dk_and dch_16).1
theorem dX11_init_1 : decode cX11_init 1 = .ok (.invokespecial 1, 3) := dk_of (dk_and (dk_and dch_16).2).1
theorem dX11_init_4 : decode cX11_init 4 = .ok (.aload_n 0, 1) := dk_of (dk_and (dk_and (dk_and dch_16).2).2).1
theorem dX11_init_5 : decode cX11_init 5 = .ok (.new 7, 3) := dk_of (dk_and (dk_and (dk_and (dk_and dch_16).2).2).2).1
theorem dX11_init_8 : decode cX11_init 8 = .ok (.dup, 1) := dk_of (dk_and (dk_and (dk_and (dk_and (dk_and dch_16).2).2).2).2).1
theorem dX11_init_9 : decode cX11_init 9 = .ok (.invokespecial 9, 3) := dk_of (dk_and (dk_and (dk_and (dk_and (dk_and (dk_and dch_16).2).2).2).2).2).1
theorem dX11_init_12 : decode cX11_init 12 = .ok (.putfield 10, 3) := dk_of (dk_and (dk_and (dk_and (dk_and (dk_and (dk_and (dk_and dch_16).2).2).2).2).2).2).1
theorem dX11_init_15 : decode cX11_init 15 = .ok (.aload_n 0, 1) := dk_of (dk_and (dk_and (dk_and (dk_and (dk_and (dk_and (dk_and (dk_and dch_16).2).2).2).2).2).2).2).1
theorem dX11_init_16 : decode cX11_init 16 = .ok (.new 16, 3) := dk_of (dk_and (dk_and (dk_and (dk_and (dk_and (dk_and (dk_and (dk_and (dk_and dch_16).2).2).2).2).2).2).2).2).1
theorem dX11_init_19 : decode cX11_init 19 = .ok (.dup, 1) := dk_of (dk_and (dk_and (dk_and (dk_and (dk_and (dk_and (dk_and (dk_and (dk_and (dk_and dch_16).2).2).2).2).2).2).2).2).2).1
theorem dX11_init_20 : decode cX11_init 20 = .ok (.invokespecial 18, 3) := dk_of (dk_and (dk_and (dk_and (dk_and (dk_and (dk_and (dk_and (dk_and (dk_and (dk_and (dk_and dch_16).2).2).2).2).2).2).2).2).2).2).1
theorem dX11_init_23 : decode cX11_init 23 = .ok (.putfield 19, 3) := dk_of (dk_and (dk_and (dk_and (dk_and (dk_and (dk_and (dk_and (dk_and (dk_and (dk_and (dk_and (dk_and dch_16).2).2).2).2).2).2).2).2).2).2).2).1
theorem dX11_init_26 : decode cX11_init 26 = .ok (.aload_n 0, 1) := dk_of (dk_and (dk_and (dk_and (dk_and (dk_and (dk_and (dk_and (dk_and (dk_and (dk_and (dk_and (dk_and (dk_and dch_16).2).2).2).2).2).2).2).2).2).2).2).2).1
theorem dX11_init_27 : decode cX11_init 27 = .ok (.new 23, 3) := dk_of (dk_and (dk_and (dk_and (dk_and (dk_and (dk_and (dk_and (dk_and (dk_and (dk_and (dk_and (dk_and (dk_and (dk_and dch_16).2).2).2).2).2).2).2).2).2).2).2).2).2).1
theorem dX11_init_30 : decode cX11_init 30 = .ok (.dup, 1) := dk_of (dk_and (dk_and (dk_and (dk_and (dk_and (dk_and (dk_and (dk_and (dk_and (dk_and (dk_and (dk_and (dk_and (dk_and (dk_and dch_16).2).2).2).2).2).2).2).2).2).2).2).2).2).2).1
theorem dX11_init_31 : decode cX11_init 31 = .ok (.invokespecial 25, 3) := dk_of (dk_and (dk_and (dk_and (dk_and (dk_and (dk_and (dk_and (dk_and (dk_and (dk_and (dk_and (dk_and (dk_and (dk_and (dk_and dch_16).2).2).2).2).2).2).2).2).2).2).2).2).2).2).2
theorem dch_32 : (dk cX11_init 34 (.putfield 26) 3 && (dk cX11_init 37 (.aload_n 0) 1 && (dk cX11_init 38 (.new 30) 3 && (dk cX11_init 41 (.dup) 1 && (dk cX11_init 42 (.invokespecial 32) 3 && (dk cX11_init 45 (.putfield 33) 3 && (dk cX11_init 48 (.aload_n 0) 1 && (dk cX11_init 49 (.new 30) 3 && (dk cX11_init 52 (.dup) 1 && (dk cX11_init 53 (.invokespecial 32) 3 && (dk cX11_init 56 (.putfield 37) 3 && (dk cX11_init 59 (.aload_n 0) 1 && (dk cX11_init 60 (.new 40) 3 && (dk cX11_init 63 (.dup) 1 && (dk cX11_init 64 (.aload_n 0) 1 && dk cX11_init 65 (.getfield 10) 3))))))))))))))) = true := by decide +kernel
theorem dX11_init_34 : decode cX11_init 34 = .ok (.putfield 26, 3) := dk_of (dk_and dch_32).1
theorem dX11_init_37 : decode cX11_init 37 = .ok (.aload_n 0, 1) := dk_of (dk_and (dk_and dch_32).2).1
theorem dX11_init_38 : decode cX11_init 38 = .ok (.new 30, 3) := dk_of (dk_and (dk_and (dk_and dch_32).2).2).1
theorem dX11_init_41 : decode cX11_init 41 = .ok (.dup, 1) := dk_of (dk_and (dk_and (dk_and (dk_and dch_32).2).2).2).1
theorem dX11_init_42 : decode cX11_init 42 = .ok (.invokespecial 32, 3) := dk_of (dk_and (dk_and (dk_and (dk_and (dk_and dch_32).2).2).2).2).1
theorem dX11_init_45 : decode cX11_init 45 = .ok (.putfield 33, 3) := dk_of (dk_and (dk_and (dk_and (dk_and (dk_and (dk_and dch_32).2).2).2).2).2).1
theorem dX11_init_48 : decode cX11_init 48 = .ok (.aload_n 0, 1) := dk_of (dk_and (dk_and (dk_and (dk_and (dk_and (dk_and (dk_and dch_32).2).2).2).2).2).2).1
theorem dX11_init_49 : decode cX11_init 49 = .ok (.new 30, 3) := dk_of (dk_and (dk_and (dk_and (dk_and (dk_and (dk_and (dk_and (dk_and dch_32).2).2).2).2).2).2).2).1
theorem dX11_init_52 : decode cX11_init 52 = .ok (.dup, 1) := dk_of (dk_and (dk_and (dk_and (dk_and (dk_and (dk_and (dk_and (dk_and (dk_and dch_32).2).2).2).2).2).2).2).2).1
theorem dX11_init_53 : decode cX11_init 53 = .ok (.invokespecial 32, 3) := dk_of (dk_and (dk_and (dk_and (dk_and (dk_and (dk_and (dk_and (dk_and (dk_and (dk_and dch_32).2).2).2).2).2).2).2).2).2).1
theorem dX11_init_56 : decode cX11_init 56 = .ok (.putfield 37, 3) := dk_of (dk_and (dk_and (dk_and (dk_and (dk_and (dk_and (dk_and (dk_and (dk_and (dk_and (dk_and dch_32).2).2).2).2).2).2).2).2).2).2).1
theorem dX11_init_59 : decode cX11_init 59 = .ok (.aload_n 0, 1) := dk_of (dk_and (dk_and (dk_and (dk_and (dk_and (dk_and (dk_and (dk_and (dk_and (dk_and (dk_and (dk_and dch_32).2).2).2).2).2).2).2).2).2).2).2).1
theorem dX11_init_60 : decode cX11_init 60 = .ok (.new 40, 3) := dk_of (dk_and (dk_and (dk_and (dk_and (dk_and (dk_and (dk_and (dk_and (dk_and (dk_and (dk_and (dk_and (dk_and dch_32).2).2).2).2).2).2).2).2).2).2).2).2).1
theorem dX11_init_63 : decode cX11_init 63 = .ok (.dup, 1) := dk_of (dk_and (dk_and (dk_and (dk_and (dk_and (dk_and (dk_and (dk_and (dk_and (dk_and (dk_and (dk_and (dk_and (dk_and dch_32).2).2).2).2).2).2).2).2).2).2).2).2).2).1
theorem dX11_init_64 : decode cX11_init 64 = .ok (.aload_n 0, 1) := dk_of (dk_and (dk_and (dk_and (dk_and (dk_and (dk_and (dk_and (dk_and (dk_and (dk_and (dk_and (dk_and (dk_and (dk_and (dk_and dch_32).2).2).2).2).2).2).2).2).2).2).2).2).2).2).1
theorem dX11_init_65 : decode cX11_init 65 = .ok (.getfield 10, 3) := dk_of (dk_and (dk_and (dk_and (dk_and (dk_and (dk_and (dk_and (dk_and (dk_and (dk_and (dk_and (dk_and (dk_and (dk_and (dk_and dch_32).2).2).2).2).2).2).2).2).2).2).2).2).2).2).2
theorem dch_48 : (dk cX11_init 68 (.aload_n 0) 1 && (dk cX11_init 69 (.getfield 37) 3 && (dk cX11_init 72 (.invokespecial 42) 3 && (dk cX11_init 75 (.putfield 45) 3 && (dk cX11_init 78 (.aload_n 0) 1 && (dk cX11_init 79 (.new 49) 3 && (dk cX11_init 82 (.dup) 1 && (dk cX11_init 83 (.aload_n 0) 1 && (dk cX11_init 84 (.getfield 45) 3 && (dk cX11_init 87 (.aload_n 0) 1 && (dk cX11_init 88 (.getfield 26) 3 && (dk cX11_init 91 (.invokespecial 51) 3 && (dk cX11_init 94 (.putfield 54) 3 && (dk cX11_init 97 (.aload_n 0) 1 && (dk cX11_init 98 (.new 58) 3 && dk cX11_init 101 (.dup) 1))))))))))))))) = true := by decide +kernel
theorem dX11_init_68 : decode cX11_init 68 = .ok (.aload_n 0, 1) := dk_of (dk_and dch_48).1
theorem dX11_init_69 : decode cX11_init 69 = .ok (.getfield 37, 3) := dk_of (dk_and (dk_and dch_48).2).1
theorem dX11_init_72 : decode cX11_init 72 = .ok (.invokespecial 42, 3) := dk_of (dk_and (dk_and (dk_and dch_48).2).2).1
theorem dX11_init_75 : decode cX11_init 75 = .ok (.putfield 45, 3) := dk_of (dk_and (dk_and (dk_and (dk_and dch_48).2).2).2).1
theorem dX11_init_78 : decode cX11_init 78 = .ok (.aload_n 0, 1) := dk_of (dk_and (dk_and (dk_and (dk_and (dk_and dch_48).2).2).2).2).1
theorem dX11_init_79 : decode cX11_init 79 = .ok (.new 49, 3) := dk_of (dk_and (dk_and (dk_and (dk_and (dk_and (dk_and dch_48).2).2).2).2).2).1
theorem dX11_init_82 : decode cX11_init 82 = .ok (.dup, 1) := dk_of (dk_and (dk_and (dk_and (dk_and (dk_and (dk_and (dk_and dch_48).2).2).2).2).2).2).1
theorem dX11_init_83 : decode cX11_init 83 = .ok (.aload_n 0, 1) := dk_of (dk_and (dk_and (dk_and (dk_and (dk_and (dk_and (dk_and (dk_and dch_48).2).2).2).2).2).2).2).1
theorem dX11_init_84 : decode cX11_init 84 = .ok (.getfield 45, 3) := dk_of (dk_and (dk_and (dk_and (dk_and (dk_and (dk_and (dk_and (dk_and (dk_and dch_48).2).2).2).2).2).2).2).2).1
theorem dX11_init_87 : decode cX11_init 87 = .ok (.aload_n 0, 1) := dk_of (dk_and (dk_and (dk_and (dk_and (dk_and (dk_and (dk_and (dk_and (dk_and (dk_and dch_48).2).2).2).2).2).2).2).2).2).1
theorem dX11_init_88 : decode cX11_init 88 = .ok (.getfield 26, 3) := dk_of (dk_and (dk_and (dk_and (dk_and (dk_and (dk_and (dk_and (dk_and (dk_and (dk_and (dk_and dch_48).2).2).2).2).2).2).2).2).2).2).1
theorem dX11_init_91 : decode cX11_init 91 = .ok (.invokespecial 51, 3) := dk_of (dk_and (dk_and (dk_and (dk_and (dk_and (dk_and (dk_and (dk_and (dk_and (dk_and (dk_and (dk_and dch_48).2).2).2).2).2).2).2).2).2).2).2).1
theorem dX11_init_94 : decode cX11_init 94 = .ok (.putfield 54, 3) := dk_of (dk_and (dk_and (dk_and (dk_and (dk_and (dk_and (dk_and (dk_and (dk_and (dk_and (dk_and (dk_and (dk_and dch_48).2).2).2).2).2).2).2).2).2).2).2).2).1
theorem dX11_init_97 : decode cX11_init 97 = .ok (.aload_n 0, 1) := dk_of (dk_and (dk_and (dk_and (dk_and (dk_and (dk_and (dk_and (dk_and (dk_and (dk_and (dk_and (dk_and (dk_and (dk_and dch_48).2).2).2).2).2).2).2).2).2).2).2).2).2).1
theorem dX11_init_98 : decode cX11_init 98 = .ok (.new 58, 3) := dk_of (dk_and (dk_and (dk_and (dk_and (dk_and (dk_and (dk_and (dk_and (dk_and (dk_and (dk_and (dk_and (dk_and (dk_and (dk_and dch_48).2).2).2).2).2).2).2).2).2).2).2).2).2).2).1
theorem dX11_init_101 : decode cX11_init 101 = .ok (.dup, 1) := dk_of (dk_and (dk_and (dk_and (dk_and (dk_and (dk_and (dk_and (dk_and (dk_and (dk_and (dk_and (dk_and (dk_and (dk_and (dk_and dch_48).2).2).2).2).2).2).2).2).2).2).2).2).2).2).2
theorem dch_64 : (dk cX11_init 102 (.invokespecial 60) 3 && (dk cX11_init 105 (.putfield 61) 3 && (dk cX11_init 108 (.aload_n 0) 1 && (dk cX11_init 109 (.new 65) 3 && (dk cX11_init 112 (.dup) 1 && (dk cX11_init 113 (.aload_n 0) 1 && (dk cX11_init 114 (.getfield 61) 3 && (dk cX11_init 117 (.aload_n 0) 1 && (dk cX11_init 118 (.getfield 45) 3 && (dk cX11_init 121 (.aload_n 0) 1 && (dk cX11_init 122 (.getfield 54) 3 && (dk cX11_init 125 (.aload_n 0) 1 && (dk cX11_init 126 (.getfield 26) 3 && (dk cX11_init 129 (.aload_n 0) 1 && (dk cX11_init 130 (.getfield 33) 3 && dk cX11_init 133 (.invokespecial 67) 3))))))))))))))) = true := by decide +kernel
theorem dX11_init_102 : decode cX11_init 102 = .ok (.invokespecial 60, 3) := dk_of (dk_and dch_64).1
theorem dX11_init_105 : decode cX11_init 105 = .ok (.putfield 61, 3) := dk_of (dk_and (dk_and dch_64).2).1
theorem dX11_init_108 : decode cX11_init 108 = .ok (.aload_n 0, 1) := dk_of (dk_and (dk_and (dk_and dch_64).2).2).1
theorem dX11_init_109 : decode cX11_init 109 = .ok (.new 65, 3) := dk_of (dk_and (dk_and (dk_and (dk_and dch_64).2).2).2).1
theorem dX11_init_112 : decode cX11_init 112 = .ok (.dup, 1) := dk_of (dk_and (dk_and (dk_and (dk_and (dk_and dch_64).2).2).2).2).1
theorem dX11_init_113 : decode cX11_init 113 = .ok (.aload_n 0, 1) := dk_of (dk_and (dk_and (dk_and (dk_and (dk_and (dk_and dch_64).2).2).2).2).2).1
theorem dX11_init_114 : decode cX11_init 114 = .ok (.getfield 61, 3) := dk_of (dk_and (dk_and (dk_and (dk_and (dk_and (dk_and (dk_and dch_64).2).2).2).2).2).2).1
theorem dX11_init_117 : decode cX11_init 117 = .ok (.aload_n 0, 1) := dk_of (dk_and (dk_and (dk_and (dk_and (dk_and (dk_and (dk_and (dk_and dch_64).2).2).2).2).2).2).2).1
theorem dX11_init_118 : decode cX11_init 118 = .ok (.getfield 45, 3) := dk_of (dk_and (dk_and (dk_and (dk_and (dk_and (dk_and (dk_and (dk_and (dk_and dch_64).2).2).2).2).2).2).2).2).1
theorem dX11_init_121 : decode cX11_init 121 = .ok (.aload_n 0, 1) := dk_of (dk_and (dk_and (dk_and (dk_and (dk_and (dk_and (dk_and (dk_and (dk_and (dk_and dch_64).2).2).2).2).2).2).2).2).2).1
theorem dX11_init_122 : decode cX11_init 122 = .ok (.getfield 54, 3) := dk_of (dk_and (dk_and (dk_and (dk_and (dk_and (dk_and (dk_and (dk_and (dk_and (dk_and (dk_and dch_64).2).2).2).2).2).2).2).2).2).2).1
theorem dX11_init_125 : decode cX11_init 125 = .ok (.aload_n 0, 1) := dk_of (dk_and (dk_and (dk_and (dk_and (dk_and (dk_and (dk_and (dk_and (dk_and (dk_and (dk_and (dk_and dch_64).2).2).2).2).2).2).2).2).2).2).2).1
theorem dX11_init_126 : decode cX11_init 126 = .ok (.getfield 26, 3) := dk_of (dk_and (dk_and (dk_and (dk_and (dk_and (dk_and (dk_and (dk_and (dk_and (dk_and (dk_and (dk_and (dk_and dch_64).2).2).2).2).2).2).2).2).2).2).2).2).1
theorem dX11_init_129 : decode cX11_init 129 = .ok (.aload_n 0, 1) := dk_of (dk_and (dk_and (dk_and (dk_and (dk_and (dk_and (dk_and (dk_and (dk_and (dk_and (dk_and (dk_and (dk_and (dk_and dch_64).2).2).2).2).2).2).2).2).2).2).2).2).2).1
theorem dX11_init_130 : decode cX11_init 130 = .ok (.getfield 33, 3) := dk_of (dk_and (dk_and (dk_and (dk_and (dk_and (dk_and (dk_and (dk_and (dk_and (dk_and (dk_and (dk_and (dk_and (dk_and (dk_and dch_64).2).2).2).2).2).2).2).2).2).2).2).2).2).2).1
theorem dX11_init_133 : decode cX11_init 133 = .ok (.invokespecial 67, 3) := dk_of (dk_and (dk_and (dk_and (dk_and (dk_and (dk_and (dk_and (dk_and (dk_and (dk_and (dk_and (dk_and (dk_and (dk_and (dk_and dch_64).2).2).2).2).2).2).2).2).2).2).2).2).2).2).2
theorem dch_80 : (dk cX11_init 136 (.putfield 70) 3 && (dk cX11_init 139 (.aload_n 0) 1 && (dk cX11_init 140 (.new 74) 3 && (dk cX11_init 143 (.dup) 1 && (dk cX11_init 144 (.invokespecial 76) 3 && (dk cX11_init 147 (.putfield 77) 3 && (dk cX11_init 150 (.aload_n 0) 1 && (dk cX11_init 151 (.new 81) 3 && (dk cX11_init 154 (.dup) 1 && (dk cX11_init 155 (.aload_n 0) 1 && (dk cX11_init 156 (.getfield 61) 3 && (dk cX11_init 159 (.invokespecial 83) 3 && (dk cX11_init 162 (.putfield 86) 3 && (dk cX11_init 165 (.aload_n 0) 1 && (dk cX11_init 166 (.bipush 8) 2 && dk cX11_init 168 (.newarray .int) 2))))))))))))))) = true := by decide +kernel
theorem dX11_init_136 : decode cX11_init 136 = .ok (.putfield 70, 3) := dk_of (dk_and dch_80).1
theorem dX11_init_139 : decode cX11_init 139 = .ok (.aload_n 0, 1) := dk_of (dk_and (dk_and dch_80).2).1
theorem dX11_init_140 : decode cX11_init 140 = .ok (.new 74, 3) := dk_of (dk_and (dk_and (dk_and dch_80).2).2).1
theorem dX11_init_143 : decode cX11_init 143 = .ok (.dup, 1) := dk_of (dk_and (dk_and (dk_and (dk_and dch_80).2).2).2).1
theorem dX11_init_144 : decode cX11_init 144 = .ok (.invokespecial 76, 3) := dk_of (dk_and (dk_and (dk_and (dk_and (dk_and dch_80).2).2).2).2).1
theorem dX11_init_147 : decode cX11_init 147 = .ok (.putfield 77, 3) := dk_of (dk_and (dk_and (dk_and (dk_and (dk_and (dk_and dch_80).2).2).2).2).2).1
theorem dX11_init_150 : decode cX11_init 150 = .ok (.aload_n 0, 1) := dk_of (dk_and (dk_and (dk_and (dk_and (dk_and (dk_and (dk_and dch_80).2).2).2).2).2).2).1
theorem dX11_init_151 : decode cX11_init 151 = .ok (.new 81, 3) := dk_of (dk_and (dk_and (dk_and (dk_and (dk_and (dk_and (dk_and (dk_and dch_80).2).2).2).2).2).2).2).1
theorem dX11_init_154 : decode cX11_init 154 = .ok (.dup, 1) := dk_of (dk_and (dk_and (dk_and (dk_and (dk_and (dk_and (dk_and (dk_and (dk_and dch_80).2).2).2).2).2).2).2).2).1
theorem dX11_init_155 : decode cX11_init 155 = .ok (.aload_n 0, 1) := dk_of (dk_and (dk_and (dk_and (dk_and (dk_and (dk_and (dk_and (dk_and (dk_and (dk_and dch_80).2).2).2).2).2).2).2).2).2).1
theorem dX11_init_156 : decode cX11_init 156 = .ok (.getfield 61, 3) := dk_of (dk_and (dk_and (dk_and (dk_and (dk_and (dk_and (dk_and (dk_and (dk_and (dk_and (dk_and dch_80).2).2).2).2).2).2).2).2).2).2).1
theorem dX11_init_159 : decode cX11_init 159 = .ok (.invokespecial 83, 3) := dk_of (dk_and (dk_and (dk_and (dk_and (dk_and (dk_and (dk_and (dk_and (dk_and (dk_and (dk_and (dk_and dch_80).2).2).2).2).2).2).2).2).2).2).2).1
theorem dX11_init_162 : decode cX11_init 162 = .ok (.putfield 86, 3) := dk_of (dk_and (dk_and (dk_and (dk_and (dk_and (dk_and (dk_and (dk_and (dk_and (dk_and (dk_and (dk_and (dk_and dch_80).2).2).2).2).2).2).2).2).2).2).2).2).1
theorem dX11_init_165 : decode cX11_init 165 = .ok (.aload_n 0, 1) := dk_of (dk_and (dk_and (dk_and (dk_and (dk_and (dk_and (dk_and (dk_and (dk_and (dk_and (dk_and (dk_and (dk_and (dk_and dch_80).2).2).2).2).2).2).2).2).2).2).2).2).2).1
theorem dX11_init_166 : decode cX11_init 166 = .ok (.bipush 8, 2) := dk_of (dk_and (dk_and (dk_and (dk_and (dk_and (dk_and (dk_and (dk_and (dk_and (dk_and (dk_and (dk_and (dk_and (dk_and (dk_and dch_80).2).2).2).2).2).2).2).2).2).2).2).2).2).2).1
theorem dX11_init_168 : decode cX11_init 168 = .ok (.newarray .int, 2) := dk_of (dk_and (dk_and (dk_and (dk_and (dk_and (dk_and (dk_and (dk_and (dk_and (dk_and (dk_and (dk_and (dk_and (dk_and (dk_and dch_80).2).2).2).2).2).2).2).2).2).2).2).2).2).2).2
theorem dch_82 : (dk cX11_init 170 (.putfield 90) 3 && dk cX11_init 173 (.return_) 1) = true := by decide +kernel
theorem dX11_init_170 : decode cX11_init 170 = .ok (.putfield 90, 3) := dk_of (dk_and dch_82).1
theorem dX11_init_173 : decode cX11_init 173 = .ok (.return_, 1) := dk_of (dk_and dch_82).2
theorem dch_98 : (dk cX11_bowler 0 (.iload_n 1) 1 && (dk cX11_bowler 1 (.iconst 0) 1 && (dk cX11_bowler 2 (.bipush 8) 2 && (dk cX11_bowler 4 (.invokestatic 94) 3 && (dk cX11_bowler 7 (.ifCond .ne 23) 3 && (dk cX11_bowler 10 (.iload_n 2) 1 && (dk cX11_bowler 11 (.iconst 0) 1 && (dk cX11_bowler 12 (.bipush 50) 2 && (dk cX11_bowler 14 (.invokestatic 94) 3 && (dk cX11_bowler 17 (.ifCond .ne 13) 3 && (dk cX11_bowler 20 (.iload_n 3) 1 && (dk cX11_bowler 21 (.iconst 0) 1 && (dk cX11_bowler 22 (.bipush 20) 2 && (dk cX11_bowler 24 (.invokestatic 94) 3 && (dk cX11_bowler 27 (.ifCond .eq 5) 3 && dk cX11_bowler 30 (.iconst (-1)) 1))))))))))))))) = true := by decide +kernel
theorem dX11_bowler_0 : decode cX11_bowler 0 = .ok (.iload_n 1, 1) := dk_of (dk_and dch_98).1
theorem dX11_bowler_1 : decode cX11_bowler 1 = .ok (.iconst 0, 1) := dk_of (dk_and (dk_and dch_98).2).1
theorem dX11_bowler_2 : decode cX11_bowler 2 = .ok (.bipush 8, 2) := dk_of (dk_and (dk_and (dk_and dch_98).2).2).1
theorem dX11_bowler_4 : decode cX11_bowler 4 = .ok (.invokestatic 94, 3) := dk_of (dk_and (dk_and (dk_and (dk_and dch_98).2).2).2).1
theorem dX11_bowler_7 : decode cX11_bowler 7 = .ok (.ifCond .ne 23, 3) := dk_of (dk_and (dk_and (dk_and (dk_and (dk_and dch_98).2).2).2).2).1
theorem dX11_bowler_10 : decode cX11_bowler 10 = .ok (.iload_n 2, 1) := dk_of (dk_and (dk_and (dk_and (dk_and (dk_and (dk_and dch_98).2).2).2).2).2).1
theorem dX11_bowler_11 : decode cX11_bowler 11 = .ok (.iconst 0, 1) := dk_of (dk_and (dk_and (dk_and (dk_and (dk_and (dk_and (dk_and dch_98).2).2).2).2).2).2).1
theorem dX11_bowler_12 : decode cX11_bowler 12 = .ok (.bipush 50, 2) := dk_of (dk_and (dk_and (dk_and (dk_and (dk_and (dk_and (dk_and (dk_and dch_98).2).2).2).2).2).2).2).1
theorem dX11_bowler_14 : decode cX11_bowler 14 = .ok (.invokestatic 94, 3) := dk_of (dk_and (dk_and (dk_and (dk_and (dk_and (dk_and (dk_and (dk_and (dk_and dch_98).2).2).2).2).2).2).2).2).1
theorem dX11_bowler_17 : decode cX11_bowler 17 = .ok (.ifCond .ne 13, 3) := dk_of (dk_and (dk_and (dk_and (dk_and (dk_and (dk_and (dk_and (dk_and (dk_and (dk_and dch_98).2).2).2).2).2).2).2).2).2).1
theorem dX11_bowler_20 : decode cX11_bowler 20 = .ok (.iload_n 3, 1) := dk_of (dk_and (dk_and (dk_and (dk_and (dk_and (dk_and (dk_and (dk_and (dk_and (dk_and (dk_and dch_98).2).2).2).2).2).2).2).2).2).2).1
theorem dX11_bowler_21 : decode cX11_bowler 21 = .ok (.iconst 0, 1) := dk_of (dk_and (dk_and (dk_and (dk_and (dk_and (dk_and (dk_and (dk_and (dk_and (dk_and (dk_and (dk_and dch_98).2).2).2).2).2).2).2).2).2).2).2).1
theorem dX11_bowler_22 : decode cX11_bowler 22 = .ok (.bipush 20, 2) := dk_of (dk_and (dk_and (dk_and (dk_and (dk_and (dk_and (dk_and (dk_and (dk_and (dk_and (dk_and (dk_and (dk_and dch_98).2).2).2).2).2).2).2).2).2).2).2).2).1
theorem dX11_bowler_24 : decode cX11_bowler 24 = .ok (.invokestatic 94, 3) := dk_of (dk_and (dk_and (dk_and (dk_and (dk_and (dk_and (dk_and (dk_and (dk_and (dk_and (dk_and (dk_and (dk_and (dk_and dch_98).2).2).2).2).2).2).2).2).2).2).2).2).2).1
theorem dX11_bowler_27 : decode cX11_bowler 27 = .ok (.ifCond .eq 5, 3) := dk_of (dk_and (dk_and (dk_and (dk_and (dk_and (dk_and (dk_and (dk_and (dk_and (dk_and (dk_and (dk_and (dk_and (dk_and (dk_and dch_98).2).2).2).2).2).2).2).2).2).2).2).2).2).2).1
theorem dX11_bowler_30 : decode cX11_bowler 30 = .ok (.iconst (-1), 1) := dk_of (dk_and (dk_and (dk_and (dk_and (dk_and (dk_and (dk_and (dk_and (dk_and (dk_and (dk_and (dk_and (dk_and (dk_and (dk_and dch_98).2).2).2).2).2).2).2).2).2).2).2).2).2).2).2
theorem dch_113 : (dk cX11_bowler 31 (.ireturn) 1 && (dk cX11_bowler 32 (.aload_n 0) 1 && (dk cX11_bowler 33 (.getfield 10) 3 && (dk cX11_bowler 36 (.getfield 98) 3 && (dk cX11_bowler 39 (.iconst 4) 1 && (dk cX11_bowler 40 (.if_icmp .lt 6) 3 && (dk cX11_bowler 43 (.bipush (-3)) 2 && (dk cX11_bowler 45 (.ireturn) 1 && (dk cX11_bowler 46 (.aload_n 0) 1 && (dk cX11_bowler 47 (.getfield 10) 3 && (dk cX11_bowler 50 (.iload_n 1) 1 && (dk cX11_bowler 51 (.iload_n 2) 1 && (dk cX11_bowler 52 (.iload_n 3) 1 && (dk cX11_bowler 53 (.invokevirtual 102) 3 && dk cX11_bowler 56 (.ireturn) 1)))))))))))))) = true := by decide +kernel
theorem dX11_bowler_31 : decode cX11_bowler 31 = .ok (.ireturn, 1) := dk_of (dk_and dch_113).1
theorem dX11_bowler_32 : decode cX11_bowler 32 = .ok (.aload_n 0, 1) := dk_of (dk_and (dk_and dch_113).2).1
theorem dX11_bowler_33 : decode cX11_bowler 33 = .ok (.getfield 10, 3) := dk_of (dk_and (dk_and (dk_and dch_113).2).2).1
theorem dX11_bowler_36 : decode cX11_bowler 36 = .ok (.getfield 98, 3) := dk_of (dk_and (dk_and (dk_and (dk_and dch_113).2).2).2).1
theorem dX11_bowler_39 : decode cX11_bowler 39 = .ok (.iconst 4, 1) := dk_of (dk_and (dk_and (dk_and (dk_and (dk_and dch_113).2).2).2).2).1
theorem dX11_bowler_40 : decode cX11_bowler 40 = .ok (.if_icmp .lt 6, 3) := dk_of (dk_and (dk_and (dk_and (dk_and (dk_and (dk_and dch_113).2).2).2).2).2).1
theorem dX11_bowler_43 : decode cX11_bowler 43 = .ok (.bipush (-3), 2) := dk_of (dk_and (dk_and (dk_and (dk_and (dk_and (dk_and (dk_and dch_113).2).2).2).2).2).2).1
theorem dX11_bowler_45 : decode cX11_bowler 45 = .ok (.ireturn, 1) := dk_of (dk_and (dk_and (dk_and (dk_and (dk_and (dk_and (dk_and (dk_and dch_113).2).2).2).2).2).2).2).1
theorem dX11_bowler_46 : decode cX11_bowler 46 = .ok (.aload_n 0, 1) := dk_of (dk_and (dk_and (dk_and (dk_and (dk_and (dk_and (dk_and (dk_and (dk_and dch_113).2).2).2).2).2).2).2).2).1
theorem dX11_bowler_47 : decode cX11_bowler 47 = .ok (.getfield 10, 3) := dk_of (dk_and (dk_and (dk_and (dk_and (dk_and (dk_and (dk_and (dk_and (dk_and (dk_and dch_113).2).2).2).2).2).2).2).2).2).1
theorem dX11_bowler_50 : decode cX11_bowler 50 = .ok (.iload_n 1, 1) := dk_of (dk_and (dk_and (dk_and (dk_and (dk_and (dk_and (dk_and (dk_and (dk_and (dk_and (dk_and dch_113).2).2).2).2).2).2).2).2).2).2).1
theorem dX11_bowler_51 : decode cX11_bowler 51 = .ok (.iload_n 2, 1) := dk_of (dk_and (dk_and (dk_and (dk_and (dk_and (dk_and (dk_and (dk_and (dk_and (dk_and (dk_and (dk_and dch_113).2).2).2).2).2).2).2).2).2).2).2).1
theorem dX11_bowler_52 : decode cX11_bowler 52 = .ok (.iload_n 3, 1) := dk_of (dk_and (dk_and (dk_and (dk_and (dk_and (dk_and (dk_and (dk_and (dk_and (dk_and (dk_and (dk_and (dk_and dch_113).2).2).2).2).2).2).2).2).2).2).2).2).1
theorem dX11_bowler_53 : decode cX11_bowler 53 = .ok (.invokevirtual 102, 3) := dk_of (dk_and (dk_and (dk_and (dk_and (dk_and (dk_and (dk_and (dk_and (dk_and (dk_and (dk_and (dk_and (dk_and (dk_and dch_113).2).2).2).2).2).2).2).2).2).2).2).2).2).1
theorem dX11_bowler_56 : decode cX11_bowler 56 = .ok (.ireturn, 1) := dk_of (dk_and (dk_and (dk_and (dk_and (dk_and (dk_and (dk_and (dk_and (dk_and (dk_and (dk_and (dk_and (dk_and (dk_and dch_113).2).2).2).2).2).2).2).2).2).2).2).2).2).2
theorem dch_129 : (dk cX11_edge 0 (.aload_n 0) 1 && (dk cX11_edge 1 (.iload_n 1) 1 && (dk cX11_edge 2 (.iload_n 2) 1 && (dk cX11_edge 3 (.invokevirtual 106) 3 && (dk cX11_edge 6 (.istore 4) 2 && (dk cX11_edge 8 (.iload 4) 2 && (dk cX11_edge 10 (.ifCond .lt 20) 3 && (dk cX11_edge 13 (.iload_n 3) 1 && (dk cX11_edge 14 (.iload 4) 2 && (dk cX11_edge 16 (.invokestatic 110) 3 && (dk cX11_edge 19 (.iload 4) 2 && (dk cX11_edge 21 (.invokestatic 114) 3 && (dk cX11_edge 24 (.invokestatic 94) 3 && (dk cX11_edge 27 (.ifCond .eq 6) 3 && (dk cX11_edge 30 (.ldc 117) 2 && dk cX11_edge 32 (.ireturn) 1))))))))))))))) = true := by decide +kernel
theorem dX11_edge_0 : decode cX11_edge 0 = .ok (.aload_n 0, 1) := dk_of (dk_and dch_129).1
theorem dX11_edge_1 : decode cX11_edge 1 = .ok (.iload_n 1, 1) := dk_of (dk_and (dk_and dch_129).2).1
theorem dX11_edge_2 : decode cX11_edge 2 = .ok (.iload_n 2, 1) := dk_of (dk_and (dk_and (dk_and dch_129).2).2).1
theorem dX11_edge_3 : decode cX11_edge 3 = .ok (.invokevirtual 106, 3) := dk_of (dk_and (dk_and (dk_and (dk_and dch_129).2).2).2).1
theorem dX11_edge_6 : decode cX11_edge 6 = .ok (.istore 4, 2) := dk_of (dk_and (dk_and (dk_and (dk_and (dk_and dch_129).2).2).2).2).1
theorem dX11_edge_8 : decode cX11_edge 8 = .ok (.iload 4, 2) := dk_of (dk_and (dk_and (dk_and (dk_and (dk_and (dk_and dch_129).2).2).2).2).2).1
theorem dX11_edge_10 : decode cX11_edge 10 = .ok (.ifCond .lt 20, 3) := dk_of (dk_and (dk_and (dk_and (dk_and (dk_and (dk_and (dk_and dch_129).2).2).2).2).2).2).1
theorem dX11_edge_13 : decode cX11_edge 13 = .ok (.iload_n 3, 1) := dk_of (dk_and (dk_and (dk_and (dk_and (dk_and (dk_and (dk_and (dk_and dch_129).2).2).2).2).2).2).2).1
theorem dX11_edge_14 : decode cX11_edge 14 = .ok (.iload 4, 2) := dk_of (dk_and (dk_and (dk_and (dk_and (dk_and (dk_and (dk_and (dk_and (dk_and dch_129).2).2).2).2).2).2).2).2).1
theorem dX11_edge_16 : decode cX11_edge 16 = .ok (.invokestatic 110, 3) := dk_of (dk_and (dk_and (dk_and (dk_and (dk_and (dk_and (dk_and (dk_and (dk_and (dk_and dch_129).2).2).2).2).2).2).2).2).2).1
theorem dX11_edge_19 : decode cX11_edge 19 = .ok (.iload 4, 2) := dk_of (dk_and (dk_and (dk_and (dk_and (dk_and (dk_and (dk_and (dk_and (dk_and (dk_and (dk_and dch_129).2).2).2).2).2).2).2).2).2).2).1
theorem dX11_edge_21 : decode cX11_edge 21 = .ok (.invokestatic 114, 3) := dk_of (dk_and (dk_and (dk_and (dk_and (dk_and (dk_and (dk_and (dk_and (dk_and (dk_and (dk_and (dk_and dch_129).2).2).2).2).2).2).2).2).2).2).2).1
theorem dX11_edge_24 : decode cX11_edge 24 = .ok (.invokestatic 94, 3) := dk_of (dk_and (dk_and (dk_and (dk_and (dk_and (dk_and (dk_and (dk_and (dk_and (dk_and (dk_and (dk_and (dk_and dch_129).2).2).2).2).2).2).2).2).2).2).2).2).1
theorem dX11_edge_27 : decode cX11_edge 27 = .ok (.ifCond .eq 6, 3) := dk_of (dk_and (dk_and (dk_and (dk_and (dk_and (dk_and (dk_and (dk_and (dk_and (dk_and (dk_and (dk_and (dk_and (dk_and dch_129).2).2).2).2).2).2).2).2).2).2).2).2).2).1
theorem dX11_edge_30 : decode cX11_edge 30 = .ok (.ldc 117, 2) := dk_of (dk_and (dk_and (dk_and (dk_and (dk_and (dk_and (dk_and (dk_and (dk_and (dk_and (dk_and (dk_and (dk_and (dk_and (dk_and dch_129).2).2).2).2).2).2).2).2).2).2).2).2).2).2).1
theorem dX11_edge_32 : decode cX11_edge 32 = .ok (.ireturn, 1) := dk_of (dk_and (dk_and (dk_and (dk_and (dk_and (dk_and (dk_and (dk_and (dk_and (dk_and (dk_and (dk_and (dk_and (dk_and (dk_and dch_129).2).2).2).2).2).2).2).2).2).2).2).2).2).2).2
theorem dch_135 : (dk cX11_edge 33 (.aload_n 0) 1 && (dk cX11_edge 34 (.getfield 10) 3 && (dk cX11_edge 37 (.iload 4) 2 && (dk cX11_edge 39 (.iload_n 3) 1 && (dk cX11_edge 40 (.invokevirtual 118) 3 && dk cX11_edge 43 (.ireturn) 1))))) = true := by decide +kernel
theorem dX11_edge_33 : decode cX11_edge 33 = .ok (.aload_n 0, 1) := dk_of (dk_and dch_135).1
theorem dX11_edge_34 : decode cX11_edge 34 = .ok (.getfield 10, 3) := dk_of (dk_and (dk_and dch_135).2).1
theorem dX11_edge_37 : decode cX11_edge 37 = .ok (.iload 4, 2) := dk_of (dk_and (dk_and (dk_and dch_135).2).2).1
theorem dX11_edge_39 : decode cX11_edge 39 = .ok (.iload_n 3, 1) := dk_of (dk_and (dk_and (dk_and (dk_and dch_135).2).2).2).1
theorem dX11_edge_40 : decode cX11_edge 40 = .ok (.invokevirtual 118, 3) := dk_of (dk_and (dk_and (dk_and (dk_and (dk_and dch_135).2).2).2).2).1
theorem dX11_edge_43 : decode cX11_edge 43 = .ok (.ireturn, 1) := dk_of (dk_and (dk_and (dk_and (dk_and (dk_and dch_135).2).2).2).2).2
theorem dch_151 : (dk cX11_field 0 (.iload_n 1) 1 && (dk cX11_field 1 (.ifCond .lt 36) 3 && (dk cX11_field 4 (.iload_n 1) 1 && (dk cX11_field 5 (.bipush 10) 2 && (dk cX11_field 7 (.idiv) 1 && (dk cX11_field 8 (.iconst 0) 1 && (dk cX11_field 9 (.iconst 3) 1 && (dk cX11_field 10 (.invokestatic 94) 3 && (dk cX11_field 13 (.ifCond .ne 24) 3 && (dk cX11_field 16 (.iload_n 1) 1 && (dk cX11_field 17 (.bipush 10) 2 && (dk cX11_field 19 (.irem) 1 && (dk cX11_field 20 (.iconst 0) 1 && (dk cX11_field 21 (.iconst 3) 1 && (dk cX11_field 22 (.invokestatic 94) 3 && dk cX11_field 25 (.ifCond .ne 12) 3))))))))))))))) = true := by decide +kernel
theorem dX11_field_0 : decode cX11_field 0 = .ok (.iload_n 1, 1) := dk_of (dk_and dch_151).1
theorem dX11_field_1 : decode cX11_field 1 = .ok (.ifCond .lt 36, 3) := dk_of (dk_and (dk_and dch_151).2).1
theorem dX11_field_4 : decode cX11_field 4 = .ok (.iload_n 1, 1) := dk_of (dk_and (dk_and (dk_and dch_151).2).2).1
theorem dX11_field_5 : decode cX11_field 5 = .ok (.bipush 10, 2) := dk_of (dk_and (dk_and (dk_and (dk_and dch_151).2).2).2).1
theorem dX11_field_7 : decode cX11_field 7 = .ok (.idiv, 1) := dk_of (dk_and (dk_and (dk_and (dk_and (dk_and dch_151).2).2).2).2).1
theorem dX11_field_8 : decode cX11_field 8 = .ok (.iconst 0, 1) := dk_of (dk_and (dk_and (dk_and (dk_and (dk_and (dk_and dch_151).2).2).2).2).2).1
theorem dX11_field_9 : decode cX11_field 9 = .ok (.iconst 3, 1) := dk_of (dk_and (dk_and (dk_and (dk_and (dk_and (dk_and (dk_and dch_151).2).2).2).2).2).2).1
theorem dX11_field_10 : decode cX11_field 10 = .ok (.invokestatic 94, 3) := dk_of (dk_and (dk_and (dk_and (dk_and (dk_and (dk_and (dk_and (dk_and dch_151).2).2).2).2).2).2).2).1
theorem dX11_field_13 : decode cX11_field 13 = .ok (.ifCond .ne 24, 3) := dk_of (dk_and (dk_and (dk_and (dk_and (dk_and (dk_and (dk_and (dk_and (dk_and dch_151).2).2).2).2).2).2).2).2).1
theorem dX11_field_16 : decode cX11_field 16 = .ok (.iload_n 1, 1) := dk_of (dk_and (dk_and (dk_and (dk_and (dk_and (dk_and (dk_and (dk_and (dk_and (dk_and dch_151).2).2).2).2).2).2).2).2).2).1
theorem dX11_field_17 : decode cX11_field 17 = .ok (.bipush 10, 2) := dk_of (dk_and (dk_and (dk_and (dk_and (dk_and (dk_and (dk_and (dk_and (dk_and (dk_and (dk_and dch_151).2).2).2).2).2).2).2).2).2).2).1
theorem dX11_field_19 : decode cX11_field 19 = .ok (.irem, 1) := dk_of (dk_and (dk_and (dk_and (dk_and (dk_and (dk_and (dk_and (dk_and (dk_and (dk_and (dk_and (dk_and dch_151).2).2).2).2).2).2).2).2).2).2).2).1
theorem dX11_field_20 : decode cX11_field 20 = .ok (.iconst 0, 1) := dk_of (dk_and (dk_and (dk_and (dk_and (dk_and (dk_and (dk_and (dk_and (dk_and (dk_and (dk_and (dk_and (dk_and dch_151).2).2).2).2).2).2).2).2).2).2).2).2).1
theorem dX11_field_21 : decode cX11_field 21 = .ok (.iconst 3, 1) := dk_of (dk_and (dk_and (dk_and (dk_and (dk_and (dk_and (dk_and (dk_and (dk_and (dk_and (dk_and (dk_and (dk_and (dk_and dch_151).2).2).2).2).2).2).2).2).2).2).2).2).2).1
theorem dX11_field_22 : decode cX11_field 22 = .ok (.invokestatic 94, 3) := dk_of (dk_and (dk_and (dk_and (dk_and (dk_and (dk_and (dk_and (dk_and (dk_and (dk_and (dk_and (dk_and (dk_and (dk_and (dk_and dch_151).2).2).2).2).2).2).2).2).2).2).2).2).2).2).1
theorem dX11_field_25 : decode cX11_field 25 = .ok (.ifCond .ne 12, 3) := dk_of (dk_and (dk_and (dk_and (dk_and (dk_and (dk_and (dk_and (dk_and (dk_and (dk_and (dk_and (dk_and (dk_and (dk_and (dk_and dch_151).2).2).2).2).2).2).2).2).2).2).2).2).2).2).2
theorem dch_167 : (dk cX11_field 28 (.iload_n 2) 1 && (dk cX11_field 29 (.iconst 0) 1 && (dk cX11_field 30 (.iconst 1) 1 && (dk cX11_field 31 (.invokestatic 94) 3 && (dk cX11_field 34 (.ifCond .eq 6) 3 && (dk cX11_field 37 (.ldc 117) 2 && (dk cX11_field 39 (.ireturn) 1 && (dk cX11_field 40 (.iload_n 2) 1 && (dk cX11_field 41 (.ifCond .ne 8) 3 && (dk cX11_field 44 (.bipush 36) 2 && (dk cX11_field 46 (.goto 5) 3 && (dk cX11_field 49 (.bipush 52) 2 && (dk cX11_field 51 (.iload_n 1) 1 && (dk cX11_field 52 (.bipush 10) 2 && (dk cX11_field 54 (.idiv) 1 && dk cX11_field 55 (.iconst 4) 1))))))))))))))) = true := by decide +kernel
theorem dX11_field_28 : decode cX11_field 28 = .ok (.iload_n 2, 1) := dk_of (dk_and dch_167).1
theorem dX11_field_29 : decode cX11_field 29 = .ok (.iconst 0, 1) := dk_of (dk_and (dk_and dch_167).2).1
theorem dX11_field_30 : decode cX11_field 30 = .ok (.iconst 1, 1) := dk_of (dk_and (dk_and (dk_and dch_167).2).2).1
theorem dX11_field_31 : decode cX11_field 31 = .ok (.invokestatic 94, 3) := dk_of (dk_and (dk_and (dk_and (dk_and dch_167).2).2).2).1
theorem dX11_field_34 : decode cX11_field 34 = .ok (.ifCond .eq 6, 3) := dk_of (dk_and (dk_and (dk_and (dk_and (dk_and dch_167).2).2).2).2).1
theorem dX11_field_37 : decode cX11_field 37 = .ok (.ldc 117, 2) := dk_of (dk_and (dk_and (dk_and (dk_and (dk_and (dk_and dch_167).2).2).2).2).2).1
theorem dX11_field_39 : decode cX11_field 39 = .ok (.ireturn, 1) := dk_of (dk_and (dk_and (dk_and (dk_and (dk_and (dk_and (dk_and dch_167).2).2).2).2).2).2).1
theorem dX11_field_40 : decode cX11_field 40 = .ok (.iload_n 2, 1) := dk_of (dk_and (dk_and (dk_and (dk_and (dk_and (dk_and (dk_and (dk_and dch_167).2).2).2).2).2).2).2).1
theorem dX11_field_41 : decode cX11_field 41 = .ok (.ifCond .ne 8, 3) := dk_of (dk_and (dk_and (dk_and (dk_and (dk_and (dk_and (dk_and (dk_and (dk_and dch_167).2).2).2).2).2).2).2).2).1
theorem dX11_field_44 : decode cX11_field 44 = .ok (.bipush 36, 2) := dk_of (dk_and (dk_and (dk_and (dk_and (dk_and (dk_and (dk_and (dk_and (dk_and (dk_and dch_167).2).2).2).2).2).2).2).2).2).1
theorem dX11_field_46 : decode cX11_field 46 = .ok (.goto 5, 3) := dk_of (dk_and (dk_and (dk_and (dk_and (dk_and (dk_and (dk_and (dk_and (dk_and (dk_and (dk_and dch_167).2).2).2).2).2).2).2).2).2).2).1
theorem dX11_field_49 : decode cX11_field 49 = .ok (.bipush 52, 2) := dk_of (dk_and (dk_and (dk_and (dk_and (dk_and (dk_and (dk_and (dk_and (dk_and (dk_and (dk_and (dk_and dch_167).2).2).2).2).2).2).2).2).2).2).2).1
theorem dX11_field_51 : decode cX11_field 51 = .ok (.iload_n 1, 1) := dk_of (dk_and (dk_and (dk_and (dk_and (dk_and (dk_and (dk_and (dk_and (dk_and (dk_and (dk_and (dk_and (dk_and dch_167).2).2).2).2).2).2).2).2).2).2).2).2).1
theorem dX11_field_52 : decode cX11_field 52 = .ok (.bipush 10, 2) := dk_of (dk_and (dk_and (dk_and (dk_and (dk_and (dk_and (dk_and (dk_and (dk_and (dk_and (dk_and (dk_and (dk_and (dk_and dch_167).2).2).2).2).2).2).2).2).2).2).2).2).2).1
theorem dX11_field_54 : decode cX11_field 54 = .ok (.idiv, 1) := dk_of (dk_and (dk_and (dk_and (dk_and (dk_and (dk_and (dk_and (dk_and (dk_and (dk_and (dk_and (dk_and (dk_and (dk_and (dk_and dch_167).2).2).2).2).2).2).2).2).2).2).2).2).2).2).1
theorem dX11_field_55 : decode cX11_field 55 = .ok (.iconst 4, 1) := dk_of (dk_and (dk_and (dk_and (dk_and (dk_and (dk_and (dk_and (dk_and (dk_and (dk_and (dk_and (dk_and (dk_and (dk_and (dk_and dch_167).2).2).2).2).2).2).2).2).2).2).2).2).2).2).2
theorem dch_183 : (dk cX11_field 56 (.imul) 1 && (dk cX11_field 57 (.iadd) 1 && (dk cX11_field 58 (.iload_n 1) 1 && (dk cX11_field 59 (.bipush 10) 2 && (dk cX11_field 61 (.irem) 1 && (dk cX11_field 62 (.iadd) 1 && (dk cX11_field 63 (.istore 4) 2 && (dk cX11_field 65 (.iload_n 3) 1 && (dk cX11_field 66 (.iload 4) 2 && (dk cX11_field 68 (.invokestatic 110) 3 && (dk cX11_field 71 (.iload 4) 2 && (dk cX11_field 73 (.invokestatic 114) 3 && (dk cX11_field 76 (.invokestatic 94) 3 && (dk cX11_field 79 (.ifCond .eq 6) 3 && (dk cX11_field 82 (.ldc 117) 2 && dk cX11_field 84 (.ireturn) 1))))))))))))))) = true := by decide +kernel
theorem dX11_field_56 : decode cX11_field 56 = .ok (.imul, 1) := dk_of (dk_and dch_183).1
theorem dX11_field_57 : decode cX11_field 57 = .ok (.iadd, 1) := dk_of (dk_and (dk_and dch_183).2).1
theorem dX11_field_58 : decode cX11_field 58 = .ok (.iload_n 1, 1) := dk_of (dk_and (dk_and (dk_and dch_183).2).2).1
theorem dX11_field_59 : decode cX11_field 59 = .ok (.bipush 10, 2) := dk_of (dk_and (dk_and (dk_and (dk_and dch_183).2).2).2).1
theorem dX11_field_61 : decode cX11_field 61 = .ok (.irem, 1) := dk_of (dk_and (dk_and (dk_and (dk_and (dk_and dch_183).2).2).2).2).1
theorem dX11_field_62 : decode cX11_field 62 = .ok (.iadd, 1) := dk_of (dk_and (dk_and (dk_and (dk_and (dk_and (dk_and dch_183).2).2).2).2).2).1
theorem dX11_field_63 : decode cX11_field 63 = .ok (.istore 4, 2) := dk_of (dk_and (dk_and (dk_and (dk_and (dk_and (dk_and (dk_and dch_183).2).2).2).2).2).2).1
theorem dX11_field_65 : decode cX11_field 65 = .ok (.iload_n 3, 1) := dk_of (dk_and (dk_and (dk_and (dk_and (dk_and (dk_and (dk_and (dk_and dch_183).2).2).2).2).2).2).2).1
theorem dX11_field_66 : decode cX11_field 66 = .ok (.iload 4, 2) := dk_of (dk_and (dk_and (dk_and (dk_and (dk_and (dk_and (dk_and (dk_and (dk_and dch_183).2).2).2).2).2).2).2).2).1
theorem dX11_field_68 : decode cX11_field 68 = .ok (.invokestatic 110, 3) := dk_of (dk_and (dk_and (dk_and (dk_and (dk_and (dk_and (dk_and (dk_and (dk_and (dk_and dch_183).2).2).2).2).2).2).2).2).2).1
theorem dX11_field_71 : decode cX11_field 71 = .ok (.iload 4, 2) := dk_of (dk_and (dk_and (dk_and (dk_and (dk_and (dk_and (dk_and (dk_and (dk_and (dk_and (dk_and dch_183).2).2).2).2).2).2).2).2).2).2).1
theorem dX11_field_73 : decode cX11_field 73 = .ok (.invokestatic 114, 3) := dk_of (dk_and (dk_and (dk_and (dk_and (dk_and (dk_and (dk_and (dk_and (dk_and (dk_and (dk_and (dk_and dch_183).2).2).2).2).2).2).2).2).2).2).2).1
theorem dX11_field_76 : decode cX11_field 76 = .ok (.invokestatic 94, 3) := dk_of (dk_and (dk_and (dk_and (dk_and (dk_and (dk_and (dk_and (dk_and (dk_and (dk_and (dk_and (dk_and (dk_and dch_183).2).2).2).2).2).2).2).2).2).2).2).2).1
theorem dX11_field_79 : decode cX11_field 79 = .ok (.ifCond .eq 6, 3) := dk_of (dk_and (dk_and (dk_and (dk_and (dk_and (dk_and (dk_and (dk_and (dk_and (dk_and (dk_and (dk_and (dk_and (dk_and dch_183).2).2).2).2).2).2).2).2).2).2).2).2).2).1
theorem dX11_field_82 : decode cX11_field 82 = .ok (.ldc 117, 2) := dk_of (dk_and (dk_and (dk_and (dk_and (dk_and (dk_and (dk_and (dk_and (dk_and (dk_and (dk_and (dk_and (dk_and (dk_and (dk_and dch_183).2).2).2).2).2).2).2).2).2).2).2).2).2).2).1
theorem dX11_field_84 : decode cX11_field 84 = .ok (.ireturn, 1) := dk_of (dk_and (dk_and (dk_and (dk_and (dk_and (dk_and (dk_and (dk_and (dk_and (dk_and (dk_and (dk_and (dk_and (dk_and (dk_and dch_183).2).2).2).2).2).2).2).2).2).2).2).2).2).2).2
theorem dch_189 : (dk cX11_field 85 (.aload_n 0) 1 && (dk cX11_field 86 (.getfield 10) 3 && (dk cX11_field 89 (.iload 4) 2 && (dk cX11_field 91 (.iload_n 3) 1 && (dk cX11_field 92 (.invokevirtual 118) 3 && dk cX11_field 95 (.ireturn) 1))))) = true := by decide +kernel
theorem dX11_field_85 : decode cX11_field 85 = .ok (.aload_n 0, 1) := dk_of (dk_and dch_189).1
theorem dX11_field_86 : decode cX11_field 86 = .ok (.getfield 10, 3) := dk_of (dk_and (dk_and dch_189).2).1
theorem dX11_field_89 : decode cX11_field 89 = .ok (.iload 4, 2) := dk_of (dk_and (dk_and (dk_and dch_189).2).2).1
theorem dX11_field_91 : decode cX11_field 91 = .ok (.iload_n 3, 1) := dk_of (dk_and (dk_and (dk_and (dk_and dch_189).2).2).2).1
theorem dX11_field_92 : decode cX11_field 92 = .ok (.invokevirtual 118, 3) := dk_of (dk_and (dk_and (dk_and (dk_and (dk_and dch_189).2).2).2).2).1
theorem dX11_field_95 : decode cX11_field 95 = .ok (.ireturn, 1) := dk_of (dk_and (dk_and (dk_and (dk_and (dk_and dch_189).2).2).2).2).2
theorem dch_205 : (dk cX11_set 0 (.iload_n 1) 1 && (dk cX11_set 1 (.iconst 0) 1 && (dk cX11_set 2 (.iconst 3) 1 && (dk cX11_set 3 (.invokestatic 94) 3 && (dk cX11_set 6 (.ifCond .eq 5) 3 && (dk cX11_set 9 (.iconst (-1)) 1 && (dk cX11_set 10 (.ireturn) 1 && (dk cX11_set 11 (.aload_n 0) 1 && (dk cX11_set 12 (.getfield 10) 3 && (dk cX11_set 15 (.getfield 121) 3 && (dk cX11_set 18 (.istore_n 2) 1 && (dk cX11_set 19 (.aload_n 0) 1 && (dk cX11_set 20 (.getfield 10) 3 && (dk cX11_set 23 (.iload_n 1) 1 && (dk cX11_set 24 (.putfield 121) 3 && dk cX11_set 27 (.iload_n 2) 1))))))))))))))) = true := by decide +kernel
theorem dX11_set_0 : decode cX11_set 0 = .ok (.iload_n 1, 1) := dk_of (dk_and dch_205).1
theorem dX11_set_1 : decode cX11_set 1 = .ok (.iconst 0, 1) := dk_of (dk_and (dk_and dch_205).2).1
theorem dX11_set_2 : decode cX11_set 2 = .ok (.iconst 3, 1) := dk_of (dk_and (dk_and (dk_and dch_205).2).2).1
theorem dX11_set_3 : decode cX11_set 3 = .ok (.invokestatic 94, 3) := dk_of (dk_and (dk_and (dk_and (dk_and dch_205).2).2).2).1
theorem dX11_set_6 : decode cX11_set 6 = .ok (.ifCond .eq 5, 3) := dk_of (dk_and (dk_and (dk_and (dk_and (dk_and dch_205).2).2).2).2).1
theorem dX11_set_9 : decode cX11_set 9 = .ok (.iconst (-1), 1) := dk_of (dk_and (dk_and (dk_and (dk_and (dk_and (dk_and dch_205).2).2).2).2).2).1
theorem dX11_set_10 : decode cX11_set 10 = .ok (.ireturn, 1) := dk_of (dk_and (dk_and (dk_and (dk_and (dk_and (dk_and (dk_and dch_205).2).2).2).2).2).2).1
theorem dX11_set_11 : decode cX11_set 11 = .ok (.aload_n 0, 1) := dk_of (dk_and (dk_and (dk_and (dk_and (dk_and (dk_and (dk_and (dk_and dch_205).2).2).2).2).2).2).2).1
theorem dX11_set_12 : decode cX11_set 12 = .ok (.getfield 10, 3) := dk_of (dk_and (dk_and (dk_and (dk_and (dk_and (dk_and (dk_and (dk_and (dk_and dch_205).2).2).2).2).2).2).2).2).1
theorem dX11_set_15 : decode cX11_set 15 = .ok (.getfield 121, 3) := dk_of (dk_and (dk_and (dk_and (dk_and (dk_and (dk_and (dk_and (dk_and (dk_and (dk_and dch_205).2).2).2).2).2).2).2).2).2).1
theorem dX11_set_18 : decode cX11_set 18 = .ok (.istore_n 2, 1) := dk_of (dk_and (dk_and (dk_and (dk_and (dk_and (dk_and (dk_and (dk_and (dk_and (dk_and (dk_and dch_205).2).2).2).2).2).2).2).2).2).2).1
theorem dX11_set_19 : decode cX11_set 19 = .ok (.aload_n 0, 1) := dk_of (dk_and (dk_and (dk_and (dk_and (dk_and (dk_and (dk_and (dk_and (dk_and (dk_and (dk_and (dk_and dch_205).2).2).2).2).2).2).2).2).2).2).2).1
theorem dX11_set_20 : decode cX11_set 20 = .ok (.getfield 10, 3) := dk_of (dk_and (dk_and (dk_and (dk_and (dk_and (dk_and (dk_and (dk_and (dk_and (dk_and (dk_and (dk_and (dk_and dch_205).2).2).2).2).2).2).2).2).2).2).2).2).1
theorem dX11_set_23 : decode cX11_set 23 = .ok (.iload_n 1, 1) := dk_of (dk_and (dk_and (dk_and (dk_and (dk_and (dk_and (dk_and (dk_and (dk_and (dk_and (dk_and (dk_and (dk_and (dk_and dch_205).2).2).2).2).2).2).2).2).2).2).2).2).2).1
theorem dX11_set_24 : decode cX11_set 24 = .ok (.putfield 121, 3) := dk_of (dk_and (dk_and (dk_and (dk_and (dk_and (dk_and (dk_and (dk_and (dk_and (dk_and (dk_and (dk_and (dk_and (dk_and (dk_and dch_205).2).2).2).2).2).2).2).2).2).2).2).2).2).2).1
theorem dX11_set_27 : decode cX11_set 27 = .ok (.iload_n 2, 1) := dk_of (dk_and (dk_and (dk_and (dk_and (dk_and (dk_and (dk_and (dk_and (dk_and (dk_and (dk_and (dk_and (dk_and (dk_and (dk_and dch_205).2).2).2).2).2).2).2).2).2).2).2).2).2).2).2
theorem dX11_set_28 : decode cX11_set 28 = .ok (.ireturn, 1) := dk_of (by decide +kernel)
theorem dch_222 : (dk cX11_feed 0 (.iload_n 1) 1 && (dk cX11_feed 1 (.iconst 1) 1 && (dk cX11_feed 2 (.iconst 4) 1 && (dk cX11_feed 3 (.invokestatic 94) 3 && (dk cX11_feed 6 (.ifCond .eq 5) 3 && (dk cX11_feed 9 (.iconst (-1)) 1 && (dk cX11_feed 10 (.ireturn) 1 && (dk cX11_feed 11 (.aload_n 0) 1 && (dk cX11_feed 12 (.getfield 19) 3 && (dk cX11_feed 15 (.getfield 124) 3 && (dk cX11_feed 18 (.iload_n 1) 1 && (dk cX11_feed 19 (.iadd) 1 && (dk cX11_feed 20 (.bipush 80) 2 && (dk cX11_feed 22 (.if_icmp .le 6) 3 && (dk cX11_feed 25 (.bipush (-3)) 2 && dk cX11_feed 27 (.ireturn) 1))))))))))))))) = true := by decide +kernel
theorem dX11_feed_0 : decode cX11_feed 0 = .ok (.iload_n 1, 1) := dk_of (dk_and dch_222).1
theorem dX11_feed_1 : decode cX11_feed 1 = .ok (.iconst 1, 1) := dk_of (dk_and (dk_and dch_222).2).1
theorem dX11_feed_2 : decode cX11_feed 2 = .ok (.iconst 4, 1) := dk_of (dk_and (dk_and (dk_and dch_222).2).2).1
theorem dX11_feed_3 : decode cX11_feed 3 = .ok (.invokestatic 94, 3) := dk_of (dk_and (dk_and (dk_and (dk_and dch_222).2).2).2).1
theorem dX11_feed_6 : decode cX11_feed 6 = .ok (.ifCond .eq 5, 3) := dk_of (dk_and (dk_and (dk_and (dk_and (dk_and dch_222).2).2).2).2).1
theorem dX11_feed_9 : decode cX11_feed 9 = .ok (.iconst (-1), 1) := dk_of (dk_and (dk_and (dk_and (dk_and (dk_and (dk_and dch_222).2).2).2).2).2).1
theorem dX11_feed_10 : decode cX11_feed 10 = .ok (.ireturn, 1) := dk_of (dk_and (dk_and (dk_and (dk_and (dk_and (dk_and (dk_and dch_222).2).2).2).2).2).2).1
theorem dX11_feed_11 : decode cX11_feed 11 = .ok (.aload_n 0, 1) := dk_of (dk_and (dk_and (dk_and (dk_and (dk_and (dk_and (dk_and (dk_and dch_222).2).2).2).2).2).2).2).1
theorem dX11_feed_12 : decode cX11_feed 12 = .ok (.getfield 19, 3) := dk_of (dk_and (dk_and (dk_and (dk_and (dk_and (dk_and (dk_and (dk_and (dk_and dch_222).2).2).2).2).2).2).2).2).1
theorem dX11_feed_15 : decode cX11_feed 15 = .ok (.getfield 124, 3) := dk_of (dk_and (dk_and (dk_and (dk_and (dk_and (dk_and (dk_and (dk_and (dk_and (dk_and dch_222).2).2).2).2).2).2).2).2).2).1
theorem dX11_feed_18 : decode cX11_feed 18 = .ok (.iload_n 1, 1) := dk_of (dk_and (dk_and (dk_and (dk_and (dk_and (dk_and (dk_and (dk_and (dk_and (dk_and (dk_and dch_222).2).2).2).2).2).2).2).2).2).2).1
theorem dX11_feed_19 : decode cX11_feed 19 = .ok (.iadd, 1) := dk_of (dk_and (dk_and (dk_and (dk_and (dk_and (dk_and (dk_and (dk_and (dk_and (dk_and (dk_and (dk_and dch_222).2).2).2).2).2).2).2).2).2).2).2).1
theorem dX11_feed_20 : decode cX11_feed 20 = .ok (.bipush 80, 2) := dk_of (dk_and (dk_and (dk_and (dk_and (dk_and (dk_and (dk_and (dk_and (dk_and (dk_and (dk_and (dk_and (dk_and dch_222).2).2).2).2).2).2).2).2).2).2).2).2).1
theorem dX11_feed_22 : decode cX11_feed 22 = .ok (.if_icmp .le 6, 3) := dk_of (dk_and (dk_and (dk_and (dk_and (dk_and (dk_and (dk_and (dk_and (dk_and (dk_and (dk_and (dk_and (dk_and (dk_and dch_222).2).2).2).2).2).2).2).2).2).2).2).2).2).1
theorem dX11_feed_25 : decode cX11_feed 25 = .ok (.bipush (-3), 2) := dk_of (dk_and (dk_and (dk_and (dk_and (dk_and (dk_and (dk_and (dk_and (dk_and (dk_and (dk_and (dk_and (dk_and (dk_and (dk_and dch_222).2).2).2).2).2).2).2).2).2).2).2).2).2).2).1
theorem dX11_feed_27 : decode cX11_feed 27 = .ok (.ireturn, 1) := dk_of (dk_and (dk_and (dk_and (dk_and (dk_and (dk_and (dk_and (dk_and (dk_and (dk_and (dk_and (dk_and (dk_and (dk_and (dk_and dch_222).2).2).2).2).2).2).2).2).2).2).2).2).2).2).2
theorem dch_228 : (dk cX11_feed 28 (.aload_n 0) 1 && (dk cX11_feed 29 (.getfield 19) 3 && (dk cX11_feed 32 (.iload_n 1) 1 && (dk cX11_feed 33 (.iload_n 2) 1 && (dk cX11_feed 34 (.invokevirtual 127) 3 && dk cX11_feed 37 (.ireturn) 1))))) = true := by decide +kernel
theorem dX11_feed_28 : decode cX11_feed 28 = .ok (.aload_n 0, 1) := dk_of (dk_and dch_228).1
theorem dX11_feed_29 : decode cX11_feed 29 = .ok (.getfield 19, 3) := dk_of (dk_and (dk_and dch_228).2).1
theorem dX11_feed_32 : decode cX11_feed 32 = .ok (.iload_n 1, 1) := dk_of (dk_and (dk_and (dk_and dch_228).2).2).1
theorem dX11_feed_33 : decode cX11_feed 33 = .ok (.iload_n 2, 1) := dk_of (dk_and (dk_and (dk_and (dk_and dch_228).2).2).2).1
theorem dX11_feed_34 : decode cX11_feed 34 = .ok (.invokevirtual 127, 3) := dk_of (dk_and (dk_and (dk_and (dk_and (dk_and dch_228).2).2).2).2).1
theorem dX11_feed_37 : decode cX11_feed 37 = .ok (.ireturn, 1) := dk_of (dk_and (dk_and (dk_and (dk_and (dk_and dch_228).2).2).2).2).2
theorem dch_244 : (dk cX11_order 0 (.aload_n 0) 1 && (dk cX11_order 1 (.getfield 19) 3 && (dk cX11_order 4 (.aload_n 0) 1 && (dk cX11_order 5 (.getfield 26) 3 && (dk cX11_order 8 (.invokevirtual 130) 3 && (dk cX11_order 11 (.istore_n 1) 1 && (dk cX11_order 12 (.iload_n 1) 1 && (dk cX11_order 13 (.ifCond .lt 8) 3 && (dk cX11_order 16 (.bipush (-100)) 2 && (dk cX11_order 18 (.iload_n 1) 1 && (dk cX11_order 19 (.isub) 1 && (dk cX11_order 20 (.ireturn) 1 && (dk cX11_order 21 (.aload_n 0) 1 && (dk cX11_order 22 (.getfield 77) 3 && (dk cX11_order 25 (.iconst 0) 1 && dk cX11_order 26 (.putfield 134) 3))))))))))))))) = true := by decide +kernel
theorem dX11_order_0 : decode cX11_order 0 = .ok (.aload_n 0, 1) := dk_of (dk_and dch_244).1
theorem dX11_order_1 : decode cX11_order 1 = .ok (.getfield 19, 3) := dk_of (dk_and (dk_and dch_244).2).1
theorem dX11_order_4 : decode cX11_order 4 = .ok (.aload_n 0, 1) := dk_of (dk_and (dk_and (dk_and dch_244).2).2).1
theorem dX11_order_5 : decode cX11_order 5 = .ok (.getfield 26, 3) := dk_of (dk_and (dk_and (dk_and (dk_and dch_244).2).2).2).1
theorem dX11_order_8 : decode cX11_order 8 = .ok (.invokevirtual 130, 3) := dk_of (dk_and (dk_and (dk_and (dk_and (dk_and dch_244).2).2).2).2).1
theorem dX11_order_11 : decode cX11_order 11 = .ok (.istore_n 1, 1) := dk_of (dk_and (dk_and (dk_and (dk_and (dk_and (dk_and dch_244).2).2).2).2).2).1
theorem dX11_order_12 : decode cX11_order 12 = .ok (.iload_n 1, 1) := dk_of (dk_and (dk_and (dk_and (dk_and (dk_and (dk_and (dk_and dch_244).2).2).2).2).2).2).1
theorem dX11_order_13 : decode cX11_order 13 = .ok (.ifCond .lt 8, 3) := dk_of (dk_and (dk_and (dk_and (dk_and (dk_and (dk_and (dk_and (dk_and dch_244).2).2).2).2).2).2).2).1
theorem dX11_order_16 : decode cX11_order 16 = .ok (.bipush (-100), 2) := dk_of (dk_and (dk_and (dk_and (dk_and (dk_and (dk_and (dk_and (dk_and (dk_and dch_244).2).2).2).2).2).2).2).2).1
theorem dX11_order_18 : decode cX11_order 18 = .ok (.iload_n 1, 1) := dk_of (dk_and (dk_and (dk_and (dk_and (dk_and (dk_and (dk_and (dk_and (dk_and (dk_and dch_244).2).2).2).2).2).2).2).2).2).1
theorem dX11_order_19 : decode cX11_order 19 = .ok (.isub, 1) := dk_of (dk_and (dk_and (dk_and (dk_and (dk_and (dk_and (dk_and (dk_and (dk_and (dk_and (dk_and dch_244).2).2).2).2).2).2).2).2).2).2).1
theorem dX11_order_20 : decode cX11_order 20 = .ok (.ireturn, 1) := dk_of (dk_and (dk_and (dk_and (dk_and (dk_and (dk_and (dk_and (dk_and (dk_and (dk_and (dk_and (dk_and dch_244).2).2).2).2).2).2).2).2).2).2).2).1
theorem dX11_order_21 : decode cX11_order 21 = .ok (.aload_n 0, 1) := dk_of (dk_and (dk_and (dk_and (dk_and (dk_and (dk_and (dk_and (dk_and (dk_and (dk_and (dk_and (dk_and (dk_and dch_244).2).2).2).2).2).2).2).2).2).2).2).2).1
theorem dX11_order_22 : decode cX11_order 22 = .ok (.getfield 77, 3) := dk_of (dk_and (dk_and (dk_and (dk_and (dk_and (dk_and (dk_and (dk_and (dk_and (dk_and (dk_and (dk_and (dk_and (dk_and dch_244).2).2).2).2).2).2).2).2).2).2).2).2).2).1
theorem dX11_order_25 : decode cX11_order 25 = .ok (.iconst 0, 1) := dk_of (dk_and (dk_and (dk_and (dk_and (dk_and (dk_and (dk_and (dk_and (dk_and (dk_and (dk_and (dk_and (dk_and (dk_and (dk_and dch_244).2).2).2).2).2).2).2).2).2).2).2).2).2).2).1
theorem dX11_order_26 : decode cX11_order 26 = .ok (.putfield 134, 3) := dk_of (dk_and (dk_and (dk_and (dk_and (dk_and (dk_and (dk_and (dk_and (dk_and (dk_and (dk_and (dk_and (dk_and (dk_and (dk_and dch_244).2).2).2).2).2).2).2).2).2).2).2).2).2).2).2
theorem dch_248 : (dk cX11_order 29 (.aload_n 0) 1 && (dk cX11_order 30 (.getfield 26) 3 && (dk cX11_order 33 (.getfield 135) 3 && dk cX11_order 36 (.ireturn) 1))) = true := by decide +kernel
theorem dX11_order_29 : decode cX11_order 29 = .ok (.aload_n 0, 1) := dk_of (dk_and dch_248).1
theorem dX11_order_30 : decode cX11_order 30 = .ok (.getfield 26, 3) := dk_of (dk_and (dk_and dch_248).2).1
theorem dX11_order_33 : decode cX11_order 33 = .ok (.getfield 135, 3) := dk_of (dk_and (dk_and (dk_and dch_248).2).2).1
theorem dX11_order_36 : decode cX11_order 36 = .ok (.ireturn, 1) := dk_of (dk_and (dk_and (dk_and dch_248).2).2).2
theorem dch_264 : (dk cX11_text 0 (.iload_n 1) 1 && (dk cX11_text 1 (.iconst 0) 1 && (dk cX11_text 2 (.iconst 1) 1 && (dk cX11_text 3 (.invokestatic 94) 3 && (dk cX11_text 6 (.ifCond .eq 5) 3 && (dk cX11_text 9 (.iconst (-1)) 1 && (dk cX11_text 10 (.ireturn) 1 && (dk cX11_text 11 (.aload_n 0) 1 && (dk cX11_text 12 (.getfield 19) 3 && (dk cX11_text 15 (.iload_n 1) 1 && (dk cX11_text 16 (.ifCond .ne 10) 3 && (dk cX11_text 19 (.aload_n 0) 1 && (dk cX11_text 20 (.getfield 33) 3 && (dk cX11_text 23 (.goto 7) 3 && (dk cX11_text 26 (.aload_n 0) 1 && dk cX11_text 27 (.getfield 37) 3))))))))))))))) = true := by decide +kernel
theorem dX11_text_0 : decode cX11_text 0 = .ok (.iload_n 1, 1) := dk_of (dk_and dch_264).1
theorem dX11_text_1 : decode cX11_text 1 = .ok (.iconst 0, 1) := dk_of (dk_and (dk_and dch_264).2).1
theorem dX11_text_2 : decode cX11_text 2 = .ok (.iconst 1, 1) := dk_of (dk_and (dk_and (dk_and dch_264).2).2).1
theorem dX11_text_3 : decode cX11_text 3 = .ok (.invokestatic 94, 3) := dk_of (dk_and (dk_and (dk_and (dk_and dch_264).2).2).2).1
theorem dX11_text_6 : decode cX11_text 6 = .ok (.ifCond .eq 5, 3) := dk_of (dk_and (dk_and (dk_and (dk_and (dk_and dch_264).2).2).2).2).1
theorem dX11_text_9 : decode cX11_text 9 = .ok (.iconst (-1), 1) := dk_of (dk_and (dk_and (dk_and (dk_and (dk_and (dk_and dch_264).2).2).2).2).2).1
theorem dX11_text_10 : decode cX11_text 10 = .ok (.ireturn, 1) := dk_of (dk_and (dk_and (dk_and (dk_and (dk_and (dk_and (dk_and dch_264).2).2).2).2).2).2).1
theorem dX11_text_11 : decode cX11_text 11 = .ok (.aload_n 0, 1) := dk_of (dk_and (dk_and (dk_and (dk_and (dk_and (dk_and (dk_and (dk_and dch_264).2).2).2).2).2).2).2).1
theorem dX11_text_12 : decode cX11_text 12 = .ok (.getfield 19, 3) := dk_of (dk_and (dk_and (dk_and (dk_and (dk_and (dk_and (dk_and (dk_and (dk_and dch_264).2).2).2).2).2).2).2).2).1
theorem dX11_text_15 : decode cX11_text 15 = .ok (.iload_n 1, 1) := dk_of (dk_and (dk_and (dk_and (dk_and (dk_and (dk_and (dk_and (dk_and (dk_and (dk_and dch_264).2).2).2).2).2).2).2).2).2).1
theorem dX11_text_16 : decode cX11_text 16 = .ok (.ifCond .ne 10, 3) := dk_of (dk_and (dk_and (dk_and (dk_and (dk_and (dk_and (dk_and (dk_and (dk_and (dk_and (dk_and dch_264).2).2).2).2).2).2).2).2).2).2).1
theorem dX11_text_19 : decode cX11_text 19 = .ok (.aload_n 0, 1) := dk_of (dk_and (dk_and (dk_and (dk_and (dk_and (dk_and (dk_and (dk_and (dk_and (dk_and (dk_and (dk_and dch_264).2).2).2).2).2).2).2).2).2).2).2).1
theorem dX11_text_20 : decode cX11_text 20 = .ok (.getfield 33, 3) := dk_of (dk_and (dk_and (dk_and (dk_and (dk_and (dk_and (dk_and (dk_and (dk_and (dk_and (dk_and (dk_and (dk_and dch_264).2).2).2).2).2).2).2).2).2).2).2).2).1
theorem dX11_text_23 : decode cX11_text 23 = .ok (.goto 7, 3) := dk_of (dk_and (dk_and (dk_and (dk_and (dk_and (dk_and (dk_and (dk_and (dk_and (dk_and (dk_and (dk_and (dk_and (dk_and dch_264).2).2).2).2).2).2).2).2).2).2).2).2).2).1
theorem dX11_text_26 : decode cX11_text 26 = .ok (.aload_n 0, 1) := dk_of (dk_and (dk_and (dk_and (dk_and (dk_and (dk_and (dk_and (dk_and (dk_and (dk_and (dk_and (dk_and (dk_and (dk_and (dk_and dch_264).2).2).2).2).2).2).2).2).2).2).2).2).2).2).1
theorem dX11_text_27 : decode cX11_text 27 = .ok (.getfield 37, 3) := dk_of (dk_and (dk_and (dk_and (dk_and (dk_and (dk_and (dk_and (dk_and (dk_and (dk_and (dk_and (dk_and (dk_and (dk_and (dk_and dch_264).2).2).2).2).2).2).2).2).2).2).2).2).2).2).2
theorem dch_280 : (dk cX11_text 30 (.invokevirtual 136) 3 && (dk cX11_text 33 (.istore_n 2) 1 && (dk cX11_text 34 (.iload_n 2) 1 && (dk cX11_text 35 (.ifCond .lt 8) 3 && (dk cX11_text 38 (.bipush (-100)) 2 && (dk cX11_text 40 (.iload_n 2) 1 && (dk cX11_text 41 (.isub) 1 && (dk cX11_text 42 (.ireturn) 1 && (dk cX11_text 43 (.iload_n 1) 1 && (dk cX11_text 44 (.iconst 1) 1 && (dk cX11_text 45 (.if_icmp .ne 10) 3 && (dk cX11_text 48 (.aload_n 0) 1 && (dk cX11_text 49 (.getfield 45) 3 && (dk cX11_text 52 (.invokevirtual 140) 3 && (dk cX11_text 55 (.iconst 1) 1 && dk cX11_text 56 (.ireturn) 1))))))))))))))) = true := by decide +kernel
theorem dX11_text_30 : decode cX11_text 30 = .ok (.invokevirtual 136, 3) := dk_of (dk_and dch_280).1
theorem dX11_text_33 : decode cX11_text 33 = .ok (.istore_n 2, 1) := dk_of (dk_and (dk_and dch_280).2).1
theorem dX11_text_34 : decode cX11_text 34 = .ok (.iload_n 2, 1) := dk_of (dk_and (dk_and (dk_and dch_280).2).2).1
theorem dX11_text_35 : decode cX11_text 35 = .ok (.ifCond .lt 8, 3) := dk_of (dk_and (dk_and (dk_and (dk_and dch_280).2).2).2).1
theorem dX11_text_38 : decode cX11_text 38 = .ok (.bipush (-100), 2) := dk_of (dk_and (dk_and (dk_and (dk_and (dk_and dch_280).2).2).2).2).1
theorem dX11_text_40 : decode cX11_text 40 = .ok (.iload_n 2, 1) := dk_of (dk_and (dk_and (dk_and (dk_and (dk_and (dk_and dch_280).2).2).2).2).2).1
theorem dX11_text_41 : decode cX11_text 41 = .ok (.isub, 1) := dk_of (dk_and (dk_and (dk_and (dk_and (dk_and (dk_and (dk_and dch_280).2).2).2).2).2).2).1
theorem dX11_text_42 : decode cX11_text 42 = .ok (.ireturn, 1) := dk_of (dk_and (dk_and (dk_and (dk_and (dk_and (dk_and (dk_and (dk_and dch_280).2).2).2).2).2).2).2).1
theorem dX11_text_43 : decode cX11_text 43 = .ok (.iload_n 1, 1) := dk_of (dk_and (dk_and (dk_and (dk_and (dk_and (dk_and (dk_and (dk_and (dk_and dch_280).2).2).2).2).2).2).2).2).1
theorem dX11_text_44 : decode cX11_text 44 = .ok (.iconst 1, 1) := dk_of (dk_and (dk_and (dk_and (dk_and (dk_and (dk_and (dk_and (dk_and (dk_and (dk_and dch_280).2).2).2).2).2).2).2).2).2).1
theorem dX11_text_45 : decode cX11_text 45 = .ok (.if_icmp .ne 10, 3) := dk_of (dk_and (dk_and (dk_and (dk_and (dk_and (dk_and (dk_and (dk_and (dk_and (dk_and (dk_and dch_280).2).2).2).2).2).2).2).2).2).2).1
theorem dX11_text_48 : decode cX11_text 48 = .ok (.aload_n 0, 1) := dk_of (dk_and (dk_and (dk_and (dk_and (dk_and (dk_and (dk_and (dk_and (dk_and (dk_and (dk_and (dk_and dch_280).2).2).2).2).2).2).2).2).2).2).2).1
theorem dX11_text_49 : decode cX11_text 49 = .ok (.getfield 45, 3) := dk_of (dk_and (dk_and (dk_and (dk_and (dk_and (dk_and (dk_and (dk_and (dk_and (dk_and (dk_and (dk_and (dk_and dch_280).2).2).2).2).2).2).2).2).2).2).2).2).1
theorem dX11_text_52 : decode cX11_text 52 = .ok (.invokevirtual 140, 3) := dk_of (dk_and (dk_and (dk_and (dk_and (dk_and (dk_and (dk_and (dk_and (dk_and (dk_and (dk_and (dk_and (dk_and (dk_and dch_280).2).2).2).2).2).2).2).2).2).2).2).2).2).1
theorem dX11_text_55 : decode cX11_text 55 = .ok (.iconst 1, 1) := dk_of (dk_and (dk_and (dk_and (dk_and (dk_and (dk_and (dk_and (dk_and (dk_and (dk_and (dk_and (dk_and (dk_and (dk_and (dk_and dch_280).2).2).2).2).2).2).2).2).2).2).2).2).2).2).1
theorem dX11_text_56 : decode cX11_text 56 = .ok (.ireturn, 1) := dk_of (dk_and (dk_and (dk_and (dk_and (dk_and (dk_and (dk_and (dk_and (dk_and (dk_and (dk_and (dk_and (dk_and (dk_and (dk_and dch_280).2).2).2).2).2).2).2).2).2).2).2).2).2).2).2
theorem dch_296 : (dk cX11_of 0 (.iload_n 1) 1 && (dk cX11_of 1 (.ifCond .ne 11) 3 && (dk cX11_of 4 (.aload_n 0) 1 && (dk cX11_of 5 (.getfield 26) 3 && (dk cX11_of 8 (.getfield 135) 3 && (dk cX11_of 11 (.ireturn) 1 && (dk cX11_of 12 (.iload_n 1) 1 && (dk cX11_of 13 (.iconst 1) 1 && (dk cX11_of 14 (.if_icmp .ne 11) 3 && (dk cX11_of 17 (.aload_n 0) 1 && (dk cX11_of 18 (.getfield 26) 3 && (dk cX11_of 21 (.getfield 143) 3 && (dk cX11_of 24 (.ireturn) 1 && (dk cX11_of 25 (.iload_n 1) 1 && (dk cX11_of 26 (.iconst 2) 1 && dk cX11_of 27 (.if_icmp .ne 11) 3))))))))))))))) = true := by decide +kernel
theorem dX11_of_0 : decode cX11_of 0 = .ok (.iload_n 1, 1) := dk_of (dk_and dch_296).1
theorem dX11_of_1 : decode cX11_of 1 = .ok (.ifCond .ne 11, 3) := dk_of (dk_and (dk_and dch_296).2).1
theorem dX11_of_4 : decode cX11_of 4 = .ok (.aload_n 0, 1) := dk_of (dk_and (dk_and (dk_and dch_296).2).2).1
theorem dX11_of_5 : decode cX11_of 5 = .ok (.getfield 26, 3) := dk_of (dk_and (dk_and (dk_and (dk_and dch_296).2).2).2).1
theorem dX11_of_8 : decode cX11_of 8 = .ok (.getfield 135, 3) := dk_of (dk_and (dk_and (dk_and (dk_and (dk_and dch_296).2).2).2).2).1
theorem dX11_of_11 : decode cX11_of 11 = .ok (.ireturn, 1) := dk_of (dk_and (dk_and (dk_and (dk_and (dk_and (dk_and dch_296).2).2).2).2).2).1
theorem dX11_of_12 : decode cX11_of 12 = .ok (.iload_n 1, 1) := dk_of (dk_and (dk_and (dk_and (dk_and (dk_and (dk_and (dk_and dch_296).2).2).2).2).2).2).1
theorem dX11_of_13 : decode cX11_of 13 = .ok (.iconst 1, 1) := dk_of (dk_and (dk_and (dk_and (dk_and (dk_and (dk_and (dk_and (dk_and dch_296).2).2).2).2).2).2).2).1
theorem dX11_of_14 : decode cX11_of 14 = .ok (.if_icmp .ne 11, 3) := dk_of (dk_and (dk_and (dk_and (dk_and (dk_and (dk_and (dk_and (dk_and (dk_and dch_296).2).2).2).2).2).2).2).2).1
theorem dX11_of_17 : decode cX11_of 17 = .ok (.aload_n 0, 1) := dk_of (dk_and (dk_and (dk_and (dk_and (dk_and (dk_and (dk_and (dk_and (dk_and (dk_and dch_296).2).2).2).2).2).2).2).2).2).1
theorem dX11_of_18 : decode cX11_of 18 = .ok (.getfield 26, 3) := dk_of (dk_and (dk_and (dk_and (dk_and (dk_and (dk_and (dk_and (dk_and (dk_and (dk_and (dk_and dch_296).2).2).2).2).2).2).2).2).2).2).1
theorem dX11_of_21 : decode cX11_of 21 = .ok (.getfield 143, 3) := dk_of (dk_and (dk_and (dk_and (dk_and (dk_and (dk_and (dk_and (dk_and (dk_and (dk_and (dk_and (dk_and dch_296).2).2).2).2).2).2).2).2).2).2).2).1
theorem dX11_of_24 : decode cX11_of 24 = .ok (.ireturn, 1) := dk_of (dk_and (dk_and (dk_and (dk_and (dk_and (dk_and (dk_and (dk_and (dk_and (dk_and (dk_and (dk_and (dk_and dch_296).2).2).2).2).2).2).2).2).2).2).2).2).1
theorem dX11_of_25 : decode cX11_of 25 = .ok (.iload_n 1, 1) := dk_of (dk_and (dk_and (dk_and (dk_and (dk_and (dk_and (dk_and (dk_and (dk_and (dk_and (dk_and (dk_and (dk_and (dk_and dch_296).2).2).2).2).2).2).2).2).2).2).2).2).2).1
theorem dX11_of_26 : decode cX11_of 26 = .ok (.iconst 2, 1) := dk_of (dk_and (dk_and (dk_and (dk_and (dk_and (dk_and (dk_and (dk_and (dk_and (dk_and (dk_and (dk_and (dk_and (dk_and (dk_and dch_296).2).2).2).2).2).2).2).2).2).2).2).2).2).2).1
theorem dX11_of_27 : decode cX11_of 27 = .ok (.if_icmp .ne 11, 3) := dk_of (dk_and (dk_and (dk_and (dk_and (dk_and (dk_and (dk_and (dk_and (dk_and (dk_and (dk_and (dk_and (dk_and (dk_and (dk_and dch_296).2).2).2).2).2).2).2).2).2).2).2).2).2).2).2
theorem dch_312 : (dk cX11_of 30 (.aload_n 0) 1 && (dk cX11_of 31 (.getfield 26) 3 && (dk cX11_of 34 (.getfield 146) 3 && (dk cX11_of 37 (.ireturn) 1 && (dk cX11_of 38 (.iload_n 1) 1 && (dk cX11_of 39 (.bipush 10) 2 && (dk cX11_of 41 (.if_icmp .lt 17) 3 && (dk cX11_of 44 (.iload_n 1) 1 && (dk cX11_of 45 (.bipush 10) 2 && (dk cX11_of 47 (.isub) 1 && (dk cX11_of 48 (.aload_n 0) 1 && (dk cX11_of 49 (.getfield 26) 3 && (dk cX11_of 52 (.getfield 135) 3 && (dk cX11_of 55 (.if_icmp .lt 5) 3 && (dk cX11_of 58 (.iconst (-1)) 1 && dk cX11_of 59 (.ireturn) 1))))))))))))))) = true := by decide +kernel
theorem dX11_of_30 : decode cX11_of 30 = .ok (.aload_n 0, 1) := dk_of (dk_and dch_312).1
theorem dX11_of_31 : decode cX11_of 31 = .ok (.getfield 26, 3) := dk_of (dk_and (dk_and dch_312).2).1
theorem dX11_of_34 : decode cX11_of 34 = .ok (.getfield 146, 3) := dk_of (dk_and (dk_and (dk_and dch_312).2).2).1
theorem dX11_of_37 : decode cX11_of 37 = .ok (.ireturn, 1) := dk_of (dk_and (dk_and (dk_and (dk_and dch_312).2).2).2).1
theorem dX11_of_38 : decode cX11_of 38 = .ok (.iload_n 1, 1) := dk_of (dk_and (dk_and (dk_and (dk_and (dk_and dch_312).2).2).2).2).1
theorem dX11_of_39 : decode cX11_of 39 = .ok (.bipush 10, 2) := dk_of (dk_and (dk_and (dk_and (dk_and (dk_and (dk_and dch_312).2).2).2).2).2).1
theorem dX11_of_41 : decode cX11_of 41 = .ok (.if_icmp .lt 17, 3) := dk_of (dk_and (dk_and (dk_and (dk_and (dk_and (dk_and (dk_and dch_312).2).2).2).2).2).2).1
theorem dX11_of_44 : decode cX11_of 44 = .ok (.iload_n 1, 1) := dk_of (dk_and (dk_and (dk_and (dk_and (dk_and (dk_and (dk_and (dk_and dch_312).2).2).2).2).2).2).2).1
theorem dX11_of_45 : decode cX11_of 45 = .ok (.bipush 10, 2) := dk_of (dk_and (dk_and (dk_and (dk_and (dk_and (dk_and (dk_and (dk_and (dk_and dch_312).2).2).2).2).2).2).2).2).1
theorem dX11_of_47 : decode cX11_of 47 = .ok (.isub, 1) := dk_of (dk_and (dk_and (dk_and (dk_and (dk_and (dk_and (dk_and (dk_and (dk_and (dk_and dch_312).2).2).2).2).2).2).2).2).2).1
theorem dX11_of_48 : decode cX11_of 48 = .ok (.aload_n 0, 1) := dk_of (dk_and (dk_and (dk_and (dk_and (dk_and (dk_and (dk_and (dk_and (dk_and (dk_and (dk_and dch_312).2).2).2).2).2).2).2).2).2).2).1
theorem dX11_of_49 : decode cX11_of 49 = .ok (.getfield 26, 3) := dk_of (dk_and (dk_and (dk_and (dk_and (dk_and (dk_and (dk_and (dk_and (dk_and (dk_and (dk_and (dk_and dch_312).2).2).2).2).2).2).2).2).2).2).2).1
theorem dX11_of_52 : decode cX11_of 52 = .ok (.getfield 135, 3) := dk_of (dk_and (dk_and (dk_and (dk_and (dk_and (dk_and (dk_and (dk_and (dk_and (dk_and (dk_and (dk_and (dk_and dch_312).2).2).2).2).2).2).2).2).2).2).2).2).1
theorem dX11_of_55 : decode cX11_of 55 = .ok (.if_icmp .lt 5, 3) := dk_of (dk_and (dk_and (dk_and (dk_and (dk_and (dk_and (dk_and (dk_and (dk_and (dk_and (dk_and (dk_and (dk_and (dk_and dch_312).2).2).2).2).2).2).2).2).2).2).2).2).2).1
theorem dX11_of_58 : decode cX11_of 58 = .ok (.iconst (-1), 1) := dk_of (dk_and (dk_and (dk_and (dk_and (dk_and (dk_and (dk_and (dk_and (dk_and (dk_and (dk_and (dk_and (dk_and (dk_and (dk_and dch_312).2).2).2).2).2).2).2).2).2).2).2).2).2).2).1
theorem dX11_of_59 : decode cX11_of 59 = .ok (.ireturn, 1) := dk_of (dk_and (dk_and (dk_and (dk_and (dk_and (dk_and (dk_and (dk_and (dk_and (dk_and (dk_and (dk_and (dk_and (dk_and (dk_and dch_312).2).2).2).2).2).2).2).2).2).2).2).2).2).2).2
theorem dch_319 : (dk cX11_of 60 (.aload_n 0) 1 && (dk cX11_of 61 (.getfield 26) 3 && (dk cX11_of 64 (.iload_n 1) 1 && (dk cX11_of 65 (.bipush 10) 2 && (dk cX11_of 67 (.isub) 1 && (dk cX11_of 68 (.invokevirtual 149) 3 && dk cX11_of 71 (.ireturn) 1)))))) = true := by decide +kernel
theorem dX11_of_60 : decode cX11_of 60 = .ok (.aload_n 0, 1) := dk_of (dk_and dch_319).1
theorem dX11_of_61 : decode cX11_of 61 = .ok (.getfield 26, 3) := dk_of (dk_and (dk_and dch_319).2).1
theorem dX11_of_64 : decode cX11_of 64 = .ok (.iload_n 1, 1) := dk_of (dk_and (dk_and (dk_and dch_319).2).2).1
theorem dX11_of_65 : decode cX11_of 65 = .ok (.bipush 10, 2) := dk_of (dk_and (dk_and (dk_and (dk_and dch_319).2).2).2).1
theorem dX11_of_67 : decode cX11_of 67 = .ok (.isub, 1) := dk_of (dk_and (dk_and (dk_and (dk_and (dk_and dch_319).2).2).2).2).1
theorem dX11_of_68 : decode cX11_of 68 = .ok (.invokevirtual 149, 3) := dk_of (dk_and (dk_and (dk_and (dk_and (dk_and (dk_and dch_319).2).2).2).2).2).1
theorem dX11_of_71 : decode cX11_of 71 = .ok (.ireturn, 1) := dk_of (dk_and (dk_and (dk_and (dk_and (dk_and (dk_and dch_319).2).2).2).2).2).2
theorem dch_335 : (dk cX11_over 0 (.iload_n 1) 1 && (dk cX11_over 1 (.ifCond .lt 16) 3 && (dk cX11_over 4 (.iload_n 2) 1 && (dk cX11_over 5 (.ifCond .lt 12) 3 && (dk cX11_over 8 (.iload_n 3) 1 && (dk cX11_over 9 (.iconst 0) 1 && (dk cX11_over 10 (.iconst 1) 1 && (dk cX11_over 11 (.invokestatic 94) 3 && (dk cX11_over 14 (.ifCond .eq 5) 3 && (dk cX11_over 17 (.iconst (-1)) 1 && (dk cX11_over 18 (.ireturn) 1 && (dk cX11_over 19 (.iload_n 1) 1 && (dk cX11_over 20 (.bipush 100) 2 && (dk cX11_over 22 (.idiv) 1 && (dk cX11_over 23 (.istore 4) 2 && dk cX11_over 25 (.iload_n 1) 1))))))))))))))) = true := by decide +kernel
theorem dX11_over_0 : decode cX11_over 0 = .ok (.iload_n 1, 1) := dk_of (dk_and dch_335).1
theorem dX11_over_1 : decode cX11_over 1 = .ok (.ifCond .lt 16, 3) := dk_of (dk_and (dk_and dch_335).2).1
theorem dX11_over_4 : decode cX11_over 4 = .ok (.iload_n 2, 1) := dk_of (dk_and (dk_and (dk_and dch_335).2).2).1
theorem dX11_over_5 : decode cX11_over 5 = .ok (.ifCond .lt 12, 3) := dk_of (dk_and (dk_and (dk_and (dk_and dch_335).2).2).2).1
theorem dX11_over_8 : decode cX11_over 8 = .ok (.iload_n 3, 1) := dk_of (dk_and (dk_and (dk_and (dk_and (dk_and dch_335).2).2).2).2).1
theorem dX11_over_9 : decode cX11_over 9 = .ok (.iconst 0, 1) := dk_of (dk_and (dk_and (dk_and (dk_and (dk_and (dk_and dch_335).2).2).2).2).2).1
theorem dX11_over_10 : decode cX11_over 10 = .ok (.iconst 1, 1) := dk_of (dk_and (dk_and (dk_and (dk_and (dk_and (dk_and (dk_and dch_335).2).2).2).2).2).2).1
theorem dX11_over_11 : decode cX11_over 11 = .ok (.invokestatic 94, 3) := dk_of (dk_and (dk_and (dk_and (dk_and (dk_and (dk_and (dk_and (dk_and dch_335).2).2).2).2).2).2).2).1
theorem dX11_over_14 : decode cX11_over 14 = .ok (.ifCond .eq 5, 3) := dk_of (dk_and (dk_and (dk_and (dk_and (dk_and (dk_and (dk_and (dk_and (dk_and dch_335).2).2).2).2).2).2).2).2).1
theorem dX11_over_17 : decode cX11_over 17 = .ok (.iconst (-1), 1) := dk_of (dk_and (dk_and (dk_and (dk_and (dk_and (dk_and (dk_and (dk_and (dk_and (dk_and dch_335).2).2).2).2).2).2).2).2).2).1
theorem dX11_over_18 : decode cX11_over 18 = .ok (.ireturn, 1) := dk_of (dk_and (dk_and (dk_and (dk_and (dk_and (dk_and (dk_and (dk_and (dk_and (dk_and (dk_and dch_335).2).2).2).2).2).2).2).2).2).2).1
theorem dX11_over_19 : decode cX11_over 19 = .ok (.iload_n 1, 1) := dk_of (dk_and (dk_and (dk_and (dk_and (dk_and (dk_and (dk_and (dk_and (dk_and (dk_and (dk_and (dk_and dch_335).2).2).2).2).2).2).2).2).2).2).2).1
theorem dX11_over_20 : decode cX11_over 20 = .ok (.bipush 100, 2) := dk_of (dk_and (dk_and (dk_and (dk_and (dk_and (dk_and (dk_and (dk_and (dk_and (dk_and (dk_and (dk_and (dk_and dch_335).2).2).2).2).2).2).2).2).2).2).2).2).1
theorem dX11_over_22 : decode cX11_over 22 = .ok (.idiv, 1) := dk_of (dk_and (dk_and (dk_and (dk_and (dk_and (dk_and (dk_and (dk_and (dk_and (dk_and (dk_and (dk_and (dk_and (dk_and dch_335).2).2).2).2).2).2).2).2).2).2).2).2).2).1
theorem dX11_over_23 : decode cX11_over 23 = .ok (.istore 4, 2) := dk_of (dk_and (dk_and (dk_and (dk_and (dk_and (dk_and (dk_and (dk_and (dk_and (dk_and (dk_and (dk_and (dk_and (dk_and (dk_and dch_335).2).2).2).2).2).2).2).2).2).2).2).2).2).2).1
theorem dX11_over_25 : decode cX11_over 25 = .ok (.iload_n 1, 1) := dk_of (dk_and (dk_and (dk_and (dk_and (dk_and (dk_and (dk_and (dk_and (dk_and (dk_and (dk_and (dk_and (dk_and (dk_and (dk_and dch_335).2).2).2).2).2).2).2).2).2).2).2).2).2).2).2
theorem dch_351 : (dk cX11_over 26 (.bipush 10) 2 && (dk cX11_over 28 (.idiv) 1 && (dk cX11_over 29 (.bipush 10) 2 && (dk cX11_over 31 (.irem) 1 && (dk cX11_over 32 (.istore 5) 2 && (dk cX11_over 34 (.iload_n 1) 1 && (dk cX11_over 35 (.bipush 10) 2 && (dk cX11_over 37 (.irem) 1 && (dk cX11_over 38 (.istore 6) 2 && (dk cX11_over 40 (.aload_n 0) 1 && (dk cX11_over 41 (.iload 4) 2 && (dk cX11_over 43 (.invokevirtual 152) 3 && (dk cX11_over 46 (.ifCond .ne 15) 3 && (dk cX11_over 49 (.iload 5) 2 && (dk cX11_over 51 (.iconst 4) 1 && dk cX11_over 52 (.if_icmp .ge 9) 3))))))))))))))) = true := by decide +kernel
theorem dX11_over_26 : decode cX11_over 26 = .ok (.bipush 10, 2) := dk_of (dk_and dch_351).1
theorem dX11_over_28 : decode cX11_over 28 = .ok (.idiv, 1) := dk_of (dk_and (dk_and dch_351).2).1
theorem dX11_over_29 : decode cX11_over 29 = .ok (.bipush 10, 2) := dk_of (dk_and (dk_and (dk_and dch_351).2).2).1
theorem dX11_over_31 : decode cX11_over 31 = .ok (.irem, 1) := dk_of (dk_and (dk_and (dk_and (dk_and dch_351).2).2).2).1
theorem dX11_over_32 : decode cX11_over 32 = .ok (.istore 5, 2) := dk_of (dk_and (dk_and (dk_and (dk_and (dk_and dch_351).2).2).2).2).1
theorem dX11_over_34 : decode cX11_over 34 = .ok (.iload_n 1, 1) := dk_of (dk_and (dk_and (dk_and (dk_and (dk_and (dk_and dch_351).2).2).2).2).2).1
theorem dX11_over_35 : decode cX11_over 35 = .ok (.bipush 10, 2) := dk_of (dk_and (dk_and (dk_and (dk_and (dk_and (dk_and (dk_and dch_351).2).2).2).2).2).2).1
theorem dX11_over_37 : decode cX11_over 37 = .ok (.irem, 1) := dk_of (dk_and (dk_and (dk_and (dk_and (dk_and (dk_and (dk_and (dk_and dch_351).2).2).2).2).2).2).2).1
theorem dX11_over_38 : decode cX11_over 38 = .ok (.istore 6, 2) := dk_of (dk_and (dk_and (dk_and (dk_and (dk_and (dk_and (dk_and (dk_and (dk_and dch_351).2).2).2).2).2).2).2).2).1
theorem dX11_over_40 : decode cX11_over 40 = .ok (.aload_n 0, 1) := dk_of (dk_and (dk_and (dk_and (dk_and (dk_and (dk_and (dk_and (dk_and (dk_and (dk_and dch_351).2).2).2).2).2).2).2).2).2).1
theorem dX11_over_41 : decode cX11_over 41 = .ok (.iload 4, 2) := dk_of (dk_and (dk_and (dk_and (dk_and (dk_and (dk_and (dk_and (dk_and (dk_and (dk_and (dk_and dch_351).2).2).2).2).2).2).2).2).2).2).1
theorem dX11_over_43 : decode cX11_over 43 = .ok (.invokevirtual 152, 3) := dk_of (dk_and (dk_and (dk_and (dk_and (dk_and (dk_and (dk_and (dk_and (dk_and (dk_and (dk_and (dk_and dch_351).2).2).2).2).2).2).2).2).2).2).2).1
theorem dX11_over_46 : decode cX11_over 46 = .ok (.ifCond .ne 15, 3) := dk_of (dk_and (dk_and (dk_and (dk_and (dk_and (dk_and (dk_and (dk_and (dk_and (dk_and (dk_and (dk_and (dk_and dch_351).2).2).2).2).2).2).2).2).2).2).2).2).1
theorem dX11_over_49 : decode cX11_over 49 = .ok (.iload 5, 2) := dk_of (dk_and (dk_and (dk_and (dk_and (dk_and (dk_and (dk_and (dk_and (dk_and (dk_and (dk_and (dk_and (dk_and (dk_and dch_351).2).2).2).2).2).2).2).2).2).2).2).2).2).1
theorem dX11_over_51 : decode cX11_over 51 = .ok (.iconst 4, 1) := dk_of (dk_and (dk_and (dk_and (dk_and (dk_and (dk_and (dk_and (dk_and (dk_and (dk_and (dk_and (dk_and (dk_and (dk_and (dk_and dch_351).2).2).2).2).2).2).2).2).2).2).2).2).2).2).1
theorem dX11_over_52 : decode cX11_over 52 = .ok (.if_icmp .ge 9, 3) := dk_of (dk_and (dk_and (dk_and (dk_and (dk_and (dk_and (dk_and (dk_and (dk_and (dk_and (dk_and (dk_and (dk_and (dk_and (dk_and dch_351).2).2).2).2).2).2).2).2).2).2).2).2).2).2).2
theorem dch_367 : (dk cX11_over 55 (.iload 6) 2 && (dk cX11_over 57 (.iconst 3) 1 && (dk cX11_over 58 (.if_icmp .le 5) 3 && (dk cX11_over 61 (.iconst (-1)) 1 && (dk cX11_over 62 (.ireturn) 1 && (dk cX11_over 63 (.iload_n 2) 1 && (dk cX11_over 64 (.bipush 10) 2 && (dk cX11_over 66 (.idiv) 1 && (dk cX11_over 67 (.bipush 12) 2 && (dk cX11_over 69 (.if_icmp .gt 12) 3 && (dk cX11_over 72 (.iload_n 2) 1 && (dk cX11_over 73 (.bipush 10) 2 && (dk cX11_over 75 (.irem) 1 && (dk cX11_over 76 (.bipush 8) 2 && (dk cX11_over 78 (.if_icmp .le 5) 3 && dk cX11_over 81 (.iconst (-1)) 1))))))))))))))) = true := by decide +kernel
theorem dX11_over_55 : decode cX11_over 55 = .ok (.iload 6, 2) := dk_of (dk_and dch_367).1
theorem dX11_over_57 : decode cX11_over 57 = .ok (.iconst 3, 1) := dk_of (dk_and (dk_and dch_367).2).1
theorem dX11_over_58 : decode cX11_over 58 = .ok (.if_icmp .le 5, 3) := dk_of (dk_and (dk_and (dk_and dch_367).2).2).1
theorem dX11_over_61 : decode cX11_over 61 = .ok (.iconst (-1), 1) := dk_of (dk_and (dk_and (dk_and (dk_and dch_367).2).2).2).1
theorem dX11_over_62 : decode cX11_over 62 = .ok (.ireturn, 1) := dk_of (dk_and (dk_and (dk_and (dk_and (dk_and dch_367).2).2).2).2).1
theorem dX11_over_63 : decode cX11_over 63 = .ok (.iload_n 2, 1) := dk_of (dk_and (dk_and (dk_and (dk_and (dk_and (dk_and dch_367).2).2).2).2).2).1
theorem dX11_over_64 : decode cX11_over 64 = .ok (.bipush 10, 2) := dk_of (dk_and (dk_and (dk_and (dk_and (dk_and (dk_and (dk_and dch_367).2).2).2).2).2).2).1
theorem dX11_over_66 : decode cX11_over 66 = .ok (.idiv, 1) := dk_of (dk_and (dk_and (dk_and (dk_and (dk_and (dk_and (dk_and (dk_and dch_367).2).2).2).2).2).2).2).1
theorem dX11_over_67 : decode cX11_over 67 = .ok (.bipush 12, 2) := dk_of (dk_and (dk_and (dk_and (dk_and (dk_and (dk_and (dk_and (dk_and (dk_and dch_367).2).2).2).2).2).2).2).2).1
theorem dX11_over_69 : decode cX11_over 69 = .ok (.if_icmp .gt 12, 3) := dk_of (dk_and (dk_and (dk_and (dk_and (dk_and (dk_and (dk_and (dk_and (dk_and (dk_and dch_367).2).2).2).2).2).2).2).2).2).1
theorem dX11_over_72 : decode cX11_over 72 = .ok (.iload_n 2, 1) := dk_of (dk_and (dk_and (dk_and (dk_and (dk_and (dk_and (dk_and (dk_and (dk_and (dk_and (dk_and dch_367).2).2).2).2).2).2).2).2).2).2).1
theorem dX11_over_73 : decode cX11_over 73 = .ok (.bipush 10, 2) := dk_of (dk_and (dk_and (dk_and (dk_and (dk_and (dk_and (dk_and (dk_and (dk_and (dk_and (dk_and (dk_and dch_367).2).2).2).2).2).2).2).2).2).2).2).1
theorem dX11_over_75 : decode cX11_over 75 = .ok (.irem, 1) := dk_of (dk_and (dk_and (dk_and (dk_and (dk_and (dk_and (dk_and (dk_and (dk_and (dk_and (dk_and (dk_and (dk_and dch_367).2).2).2).2).2).2).2).2).2).2).2).2).1
theorem dX11_over_76 : decode cX11_over 76 = .ok (.bipush 8, 2) := dk_of (dk_and (dk_and (dk_and (dk_and (dk_and (dk_and (dk_and (dk_and (dk_and (dk_and (dk_and (dk_and (dk_and (dk_and dch_367).2).2).2).2).2).2).2).2).2).2).2).2).2).1
theorem dX11_over_78 : decode cX11_over 78 = .ok (.if_icmp .le 5, 3) := dk_of (dk_and (dk_and (dk_and (dk_and (dk_and (dk_and (dk_and (dk_and (dk_and (dk_and (dk_and (dk_and (dk_and (dk_and (dk_and dch_367).2).2).2).2).2).2).2).2).2).2).2).2).2).2).1
theorem dX11_over_81 : decode cX11_over 81 = .ok (.iconst (-1), 1) := dk_of (dk_and (dk_and (dk_and (dk_and (dk_and (dk_and (dk_and (dk_and (dk_and (dk_and (dk_and (dk_and (dk_and (dk_and (dk_and dch_367).2).2).2).2).2).2).2).2).2).2).2).2).2).2).2
theorem dch_383 : (dk cX11_over 82 (.ireturn) 1 && (dk cX11_over 83 (.aload_n 0) 1 && (dk cX11_over 84 (.getfield 45) 3 && (dk cX11_over 87 (.aload_n 0) 1 && (dk cX11_over 88 (.getfield 10) 3 && (dk cX11_over 91 (.getfield 121) 3 && (dk cX11_over 94 (.invokevirtual 156) 3 && (dk cX11_over 97 (.iload_n 3) 1 && (dk cX11_over 98 (.iconst 1) 1 && (dk cX11_over 99 (.if_icmp .ne 17) 3 && (dk cX11_over 102 (.aload_n 0) 1 && (dk cX11_over 103 (.getfield 45) 3 && (dk cX11_over 106 (.iload 4) 2 && (dk cX11_over 108 (.iload 5) 2 && (dk cX11_over 110 (.iload 6) 2 && dk cX11_over 112 (.invokevirtual 160) 3))))))))))))))) = true := by decide +kernel
theorem dX11_over_82 : decode cX11_over 82 = .ok (.ireturn, 1) := dk_of (dk_and dch_383).1
theorem dX11_over_83 : decode cX11_over 83 = .ok (.aload_n 0, 1) := dk_of (dk_and (dk_and dch_383).2).1
theorem dX11_over_84 : decode cX11_over 84 = .ok (.getfield 45, 3) := dk_of (dk_and (dk_and (dk_and dch_383).2).2).1
theorem dX11_over_87 : decode cX11_over 87 = .ok (.aload_n 0, 1) := dk_of (dk_and (dk_and (dk_and (dk_and dch_383).2).2).2).1
theorem dX11_over_88 : decode cX11_over 88 = .ok (.getfield 10, 3) := dk_of (dk_and (dk_and (dk_and (dk_and (dk_and dch_383).2).2).2).2).1
theorem dX11_over_91 : decode cX11_over 91 = .ok (.getfield 121, 3) := dk_of (dk_and (dk_and (dk_and (dk_and (dk_and (dk_and dch_383).2).2).2).2).2).1
theorem dX11_over_94 : decode cX11_over 94 = .ok (.invokevirtual 156, 3) := dk_of (dk_and (dk_and (dk_and (dk_and (dk_and (dk_and (dk_and dch_383).2).2).2).2).2).2).1
theorem dX11_over_97 : decode cX11_over 97 = .ok (.iload_n 3, 1) := dk_of (dk_and (dk_and (dk_and (dk_and (dk_and (dk_and (dk_and (dk_and dch_383).2).2).2).2).2).2).2).1
theorem dX11_over_98 : decode cX11_over 98 = .ok (.iconst 1, 1) := dk_of (dk_and (dk_and (dk_and (dk_and (dk_and (dk_and (dk_and (dk_and (dk_and dch_383).2).2).2).2).2).2).2).2).1
theorem dX11_over_99 : decode cX11_over 99 = .ok (.if_icmp .ne 17, 3) := dk_of (dk_and (dk_and (dk_and (dk_and (dk_and (dk_and (dk_and (dk_and (dk_and (dk_and dch_383).2).2).2).2).2).2).2).2).2).1
theorem dX11_over_102 : decode cX11_over 102 = .ok (.aload_n 0, 1) := dk_of (dk_and (dk_and (dk_and (dk_and (dk_and (dk_and (dk_and (dk_and (dk_and (dk_and (dk_and dch_383).2).2).2).2).2).2).2).2).2).2).1
theorem dX11_over_103 : decode cX11_over 103 = .ok (.getfield 45, 3) := dk_of (dk_and (dk_and (dk_and (dk_and (dk_and (dk_and (dk_and (dk_and (dk_and (dk_and (dk_and (dk_and dch_383).2).2).2).2).2).2).2).2).2).2).2).1
theorem dX11_over_106 : decode cX11_over 106 = .ok (.iload 4, 2) := dk_of (dk_and (dk_and (dk_and (dk_and (dk_and (dk_and (dk_and (dk_and (dk_and (dk_and (dk_and (dk_and (dk_and dch_383).2).2).2).2).2).2).2).2).2).2).2).2).1
theorem dX11_over_108 : decode cX11_over 108 = .ok (.iload 5, 2) := dk_of (dk_and (dk_and (dk_and (dk_and (dk_and (dk_and (dk_and (dk_and (dk_and (dk_and (dk_and (dk_and (dk_and (dk_and dch_383).2).2).2).2).2).2).2).2).2).2).2).2).2).1
theorem dX11_over_110 : decode cX11_over 110 = .ok (.iload 6, 2) := dk_of (dk_and (dk_and (dk_and (dk_and (dk_and (dk_and (dk_and (dk_and (dk_and (dk_and (dk_and (dk_and (dk_and (dk_and (dk_and dch_383).2).2).2).2).2).2).2).2).2).2).2).2).2).2).1
theorem dX11_over_112 : decode cX11_over 112 = .ok (.invokevirtual 160, 3) := dk_of (dk_and (dk_and (dk_and (dk_and (dk_and (dk_and (dk_and (dk_and (dk_and (dk_and (dk_and (dk_and (dk_and (dk_and (dk_and dch_383).2).2).2).2).2).2).2).2).2).2).2).2).2).2).2
theorem dch_399 : (dk cX11_over 115 (.ireturn) 1 && (dk cX11_over 116 (.aload_n 0) 1 && (dk cX11_over 117 (.getfield 45) 3 && (dk cX11_over 120 (.iload 4) 2 && (dk cX11_over 122 (.iload 5) 2 && (dk cX11_over 124 (.iload 6) 2 && (dk cX11_over 126 (.aload_n 0) 1 && (dk cX11_over 127 (.getfield 10) 3 && (dk cX11_over 130 (.iload 4) 2 && (dk cX11_over 132 (.invokevirtual 163) 3 && (dk cX11_over 135 (.iload_n 2) 1 && (dk cX11_over 136 (.bipush 10) 2 && (dk cX11_over 138 (.idiv) 1 && (dk cX11_over 139 (.iload_n 2) 1 && (dk cX11_over 140 (.bipush 10) 2 && dk cX11_over 142 (.irem) 1))))))))))))))) = true := by decide +kernel
theorem dX11_over_115 : decode cX11_over 115 = .ok (.ireturn, 1) := dk_of (dk_and dch_399).1
theorem dX11_over_116 : decode cX11_over 116 = .ok (.aload_n 0, 1) := dk_of (dk_and (dk_and dch_399).2).1
theorem dX11_over_117 : decode cX11_over 117 = .ok (.getfield 45, 3) := dk_of (dk_and (dk_and (dk_and dch_399).2).2).1
theorem dX11_over_120 : decode cX11_over 120 = .ok (.iload 4, 2) := dk_of (dk_and (dk_and (dk_and (dk_and dch_399).2).2).2).1
theorem dX11_over_122 : decode cX11_over 122 = .ok (.iload 5, 2) := dk_of (dk_and (dk_and (dk_and (dk_and (dk_and dch_399).2).2).2).2).1
theorem dX11_over_124 : decode cX11_over 124 = .ok (.iload 6, 2) := dk_of (dk_and (dk_and (dk_and (dk_and (dk_and (dk_and dch_399).2).2).2).2).2).1
theorem dX11_over_126 : decode cX11_over 126 = .ok (.aload_n 0, 1) := dk_of (dk_and (dk_and (dk_and (dk_and (dk_and (dk_and (dk_and dch_399).2).2).2).2).2).2).1
theorem dX11_over_127 : decode cX11_over 127 = .ok (.getfield 10, 3) := dk_of (dk_and (dk_and (dk_and (dk_and (dk_and (dk_and (dk_and (dk_and dch_399).2).2).2).2).2).2).2).1
theorem dX11_over_130 : decode cX11_over 130 = .ok (.iload 4, 2) := dk_of (dk_and (dk_and (dk_and (dk_and (dk_and (dk_and (dk_and (dk_and (dk_and dch_399).2).2).2).2).2).2).2).2).1
theorem dX11_over_132 : decode cX11_over 132 = .ok (.invokevirtual 163, 3) := dk_of (dk_and (dk_and (dk_and (dk_and (dk_and (dk_and (dk_and (dk_and (dk_and (dk_and dch_399).2).2).2).2).2).2).2).2).2).1
theorem dX11_over_135 : decode cX11_over 135 = .ok (.iload_n 2, 1) := dk_of (dk_and (dk_and (dk_and (dk_and (dk_and (dk_and (dk_and (dk_and (dk_and (dk_and (dk_and dch_399).2).2).2).2).2).2).2).2).2).2).1
theorem dX11_over_136 : decode cX11_over 136 = .ok (.bipush 10, 2) := dk_of (dk_and (dk_and (dk_and (dk_and (dk_and (dk_and (dk_and (dk_and (dk_and (dk_and (dk_and (dk_and dch_399).2).2).2).2).2).2).2).2).2).2).2).1
theorem dX11_over_138 : decode cX11_over 138 = .ok (.idiv, 1) := dk_of (dk_and (dk_and (dk_and (dk_and (dk_and (dk_and (dk_and (dk_and (dk_and (dk_and (dk_and (dk_and (dk_and dch_399).2).2).2).2).2).2).2).2).2).2).2).2).1
theorem dX11_over_139 : decode cX11_over 139 = .ok (.iload_n 2, 1) := dk_of (dk_and (dk_and (dk_and (dk_and (dk_and (dk_and (dk_and (dk_and (dk_and (dk_and (dk_and (dk_and (dk_and (dk_and dch_399).2).2).2).2).2).2).2).2).2).2).2).2).2).1
theorem dX11_over_140 : decode cX11_over 140 = .ok (.bipush 10, 2) := dk_of (dk_and (dk_and (dk_and (dk_and (dk_and (dk_and (dk_and (dk_and (dk_and (dk_and (dk_and (dk_and (dk_and (dk_and (dk_and dch_399).2).2).2).2).2).2).2).2).2).2).2).2).2).2).1
theorem dX11_over_142 : decode cX11_over 142 = .ok (.irem, 1) := dk_of (dk_and (dk_and (dk_and (dk_and (dk_and (dk_and (dk_and (dk_and (dk_and (dk_and (dk_and (dk_and (dk_and (dk_and (dk_and dch_399).2).2).2).2).2).2).2).2).2).2).2).2).2).2).2
theorem dX11_over_143 : decode cX11_over 143 = .ok (.invokevirtual 166, 3) := dk_of (by decide +kernel)