/-! MY LAYER: one world for everything that the law has made; a state is two functions, σ (numbers, int rows) and τ (long rows), by cell -/
def jup (σ : Nat → Nat → Int32) (i k : Nat) (v : Int32) : Nat → Nat → Int32 := va_up σ i (upd (σ i) k v)
def jupL (τ : Nat → Nat → Int64) (i k : Nat) (v : Int64) : Nat → Nat → Int64 := va_up τ i (vp_updL (τ i) k v)
theorem jup_s {σ : Nat → Nat → Int32} {i k : Nat} {v : Int32} : jup σ i k v i k = v := by simp [jup, va_up, upd]
theorem jup_k {σ : Nat → Nat → Int32} {i k k' : Nat} {v : Int32} (h : k' ≠ k) : jup σ i k v i k' = σ i k' := by simp [jup, va_up, upd, h]
theorem jup_n {σ : Nat → Nat → Int32} {i j k : Nat} {v : Int32} (h : j ≠ i) : jup σ i k v j = σ j := by simp [jup, va_up, h]
theorem jupL_s {τ : Nat → Nat → Int64} {i k : Nat} {v : Int64} : jupL τ i k v i k = v := by simp [jupL, va_up, vp_updL]
theorem jupL_k {τ : Nat → Nat → Int64} {i k k' : Nat} {v : Int64} (h : k' ≠ k) : jupL τ i k v i k' = τ i k' := by simp [jupL, va_up, vp_updL, h]
theorem jupL_n {τ : Nat → Nat → Int64} {i j k : Nat} {v : Int64} (h : j ≠ i) : jupL τ i k v j = τ j := by simp [jupL, va_up, h]
/-- the world: the cells of the class's object and of the reference, by number; numbers and int rows in σ, long rows in τ -/
def jw (cI cL : ClassId) (ad : Nat → Nat) (σ : Nat → Nat → Int32) (τ : Nat → Nat → Int64) : va_W := [(ad 0, .inr (10, [.ref (ad 2), .ref (ad 9), .ref (ad 16), .ref (ad 18), .ref (ad 22), .ref (ad 26), .ref (ad 31), .ref (ad 38), .ref (ad 43), .ref (ad 47), .ref (ad 50), .ref (ad 1)])),
  (ad 1, .inl (cI, 8, .inl (σ 1))),
  (ad 2, .inr (3, [.int (σ 2 0), .int (σ 2 1), .int (σ 2 2), .int (σ 2 3), .ref (ad 3), .ref (ad 4), .ref (ad 5), .ref (ad 6), .ref (ad 7), .ref (ad 8)])),
  (ad 3, .inl (cI, 68, .inl (σ 3))),
  (ad 4, .inl (cI, 4, .inl (σ 4))),
  (ad 5, .inl (cI, 4, .inl (σ 5))),
  (ad 6, .inl (cI, 40, .inl (σ 6))),
  (ad 7, .inl (cI, 40, .inl (σ 7))),
  (ad 8, .inl (cI, 40, .inl (σ 8))),
  (ad 9, .inr (6, [.int (σ 9 0), .int (σ 9 1), .int (σ 9 2), .ref (ad 10), .ref (ad 11), .ref (ad 12)])),
  (ad 10, .inl (cI, 80, .inl (σ 10))),
  (ad 11, .inl (cI, 8, .inl (σ 11))),
  (ad 12, .inr (9, [.int (σ 12 0), .int (σ 12 1), .ref (ad 13), .ref (ad 14), .ref (ad 15)])),
  (ad 13, .inl (cI, 160, .inl (σ 13))),
  (ad 14, .inl (cI, 8, .inl (σ 14))),
  (ad 15, .inl (cI, 160, .inl (σ 15))),
  (ad 16, .inr (5, [.int (σ 16 0), .int (σ 16 1), .int (σ 16 2), .ref (ad 17)])),
  (ad 17, .inl (cI, 8, .inl (σ 17))),
  (ad 18, .inr (9, [.int (σ 18 0), .int (σ 18 1), .ref (ad 19), .ref (ad 20), .ref (ad 21)])),
  (ad 19, .inl (cI, 160, .inl (σ 19))),
  (ad 20, .inl (cI, 8, .inl (σ 20))),
  (ad 21, .inl (cI, 160, .inl (σ 21))),
  (ad 22, .inr (9, [.int (σ 22 0), .int (σ 22 1), .ref (ad 23), .ref (ad 24), .ref (ad 25)])),
  (ad 23, .inl (cI, 160, .inl (σ 23))),
  (ad 24, .inl (cI, 8, .inl (σ 24))),
  (ad 25, .inl (cI, 160, .inl (σ 25))),
  (ad 26, .inr (4, [.ref (ad 22), .ref (ad 2), .ref (ad 27), .ref (ad 28), .ref (ad 29), .ref (ad 30), .int (σ 26 6), .int (σ 26 7)])),
  (ad 27, .inl (cI, 64, .inl (σ 27))),
  (ad 28, .inl (cI, 64, .inl (σ 28))),
  (ad 29, .inl (cI, 4096, .inl (σ 29))),
  (ad 30, .inl (cI, 4096, .inl (σ 30))),
  (ad 31, .inr (0, [.ref (ad 26), .ref (ad 16), .ref (ad 32), .ref (ad 33), .ref (ad 34), .ref (ad 35), .ref (ad 36), .ref (ad 37), .int (σ 31 8), .int (σ 31 9), .int (σ 31 10), .int (σ 31 11), .int (σ 31 12)])),
  (ad 32, .inl (cI, 350, .inl (σ 32))),
  (ad 33, .inl (cI, 1400, .inl (σ 33))),
  (ad 34, .inl (cI, 3159, .inl (σ 34))),
  (ad 35, .inl (cI, 3159, .inl (σ 35))),
  (ad 36, .inl (cI, 1024, .inl (σ 36))),
  (ad 37, .inl (cI, 350, .inl (σ 37))),
  (ad 38, .inr (7, [.int (σ 38 0), .int (σ 38 1), .ref (ad 39), .ref (ad 40), .ref (ad 41), .ref (ad 42)])),
  (ad 39, .inl (cI, 20, .inl (σ 39))),
  (ad 40, .inl (cI, 20, .inl (σ 40))),
  (ad 41, .inl (cI, 20, .inl (σ 41))),
  (ad 42, .inl (cI, 24, .inl (σ 42))),
  (ad 43, .inr (2, [.ref (ad 38), .ref (ad 26), .ref (ad 31), .ref (ad 16), .ref (ad 18), .ref (ad 44), .ref (ad 45), .ref (ad 46), .int (σ 43 8)])),
  (ad 44, .inl (cI, 8, .inl (σ 44))),
  (ad 45, .inl (cI, 8, .inl (σ 45))),
  (ad 46, .inl (cI, 8, .inl (σ 46))),
  (ad 47, .inr (1, [.int (σ 47 0), .ref (ad 48), .ref (ad 49)])),
  (ad 48, .inl (cI, 12, .inl (σ 48))),
  (ad 49, .inl (cI, 12, .inl (σ 49))),
  (ad 50, .inr (8, [.ref (ad 38), .ref (ad 51), .ref (ad 52), .ref (ad 53), .ref (ad 54)])),
  (ad 51, .inl (cI, 6, .inl (σ 51))),
  (ad 52, .inl (cI, 6, .inl (σ 52))),
  (ad 53, .inl (cI, 6, .inl (σ 53))),
  (ad 54, .inl (cL, 360, .inr (.inl (τ 54)))),
  (ad 55, .inr (11, [.ref (ad 56), .ref (ad 57), .ref (ad 58), .ref (ad 59), .int (σ 55 4), .int (σ 55 5), .int (σ 55 6), .ref (ad 60), .ref (ad 61), .int (σ 55 9), .int (σ 55 10), .ref (ad 62), .int (σ 55 12), .int (σ 55 13), .ref (ad 63), .int (σ 55 15), .ref (ad 64), .ref (ad 65), .int (σ 55 18), .int (σ 55 19), .int (σ 55 20), .int (σ 55 21), .int (σ 55 22), .ref (ad 66), .ref (ad 67), .int (σ 55 25), .int (σ 55 26), .int (σ 55 27), .ref (ad 68), .ref (ad 69), .int (σ 55 30), .int (σ 55 31), .int (σ 55 32), .ref (ad 70), .ref (ad 71), .ref (ad 72), .ref (ad 73), .int (σ 55 37), .ref (ad 74), .ref (ad 75), .ref (ad 76), .ref (ad 77), .int (σ 55 42), .ref (ad 78), .ref (ad 79), .int (σ 55 45), .int (σ 55 46), .int (σ 55 47), .ref (ad 80), .ref (ad 81), .int (σ 55 50), .ref (ad 82), .ref (ad 83), .ref (ad 84), .ref (ad 85), .int (σ 55 55), .int (σ 55 56), .int (σ 55 57), .ref (ad 86), .ref (ad 87), .ref (ad 88), .ref (ad 89)])),
  (ad 56, .inl (cI, 68, .inl (σ 56))),
  (ad 57, .inl (cI, 40, .inl (σ 57))),
  (ad 58, .inl (cI, 40, .inl (σ 58))),
  (ad 59, .inl (cI, 40, .inl (σ 59))),
  (ad 60, .inl (cI, 4, .inl (σ 60))),
  (ad 61, .inl (cI, 4, .inl (σ 61))),
  (ad 62, .inl (cI, 8, .inl (σ 62))),
  (ad 63, .inl (cI, 80, .inl (σ 63))),
  (ad 64, .inl (cI, 160, .inl (σ 64))),
  (ad 65, .inl (cI, 2, .inl (σ 65))),
  (ad 66, .inl (cI, 8, .inl (σ 66))),
  (ad 67, .inl (cI, 8, .inl (σ 67))),
  (ad 68, .inl (cI, 4, .inl (σ 68))),
  (ad 69, .inl (cI, 4, .inl (σ 69))),
  (ad 70, .inl (cI, 20, .inl (σ 70))),
  (ad 71, .inl (cI, 20, .inl (σ 71))),
  (ad 72, .inl (cI, 160, .inl (σ 72))),
  (ad 73, .inl (cI, 20, .inl (σ 73))),
  (ad 74, .inl (cI, 65536, .inl (σ 74))),
  (ad 75, .inl (cI, 65536, .inl (σ 75))),
  (ad 76, .inl (cI, 65536, .inl (σ 76))),
  (ad 77, .inl (cI, 65536, .inl (σ 77))),
  (ad 78, .inl (cI, 65536, .inl (σ 78))),
  (ad 79, .inl (cI, 5, .inl (σ 79))),
  (ad 80, .inl (cI, 12, .inl (σ 80))),
  (ad 81, .inl (cI, 12, .inl (σ 81))),
  (ad 82, .inl (cI, 12, .inl (σ 82))),
  (ad 83, .inl (cI, 12, .inl (σ 83))),
  (ad 84, .inl (cI, 12, .inl (σ 84))),
  (ad 85, .inl (cI, 24, .inl (σ 85))),
  (ad 86, .inl (cI, 6, .inl (σ 86))),
  (ad 87, .inl (cI, 6, .inl (σ 87))),
  (ad 88, .inl (cL, 360, .inr (.inl (τ 88)))),
  (ad 89, .inl (cL, 60, .inr (.inl (τ 89))))]
def jn : Nat := 90
section CELLS
variable (cI cL : ClassId) (ad : Nat → Nat) (σ : Nat → Nat → Int32) (τ : Nat → Nat → Int64)
theorem jc_0 : (jw cI cL ad σ τ)[0]? = some (ad 0, .inr (10, [.ref (ad 2), .ref (ad 9), .ref (ad 16), .ref (ad 18), .ref (ad 22), .ref (ad 26), .ref (ad 31), .ref (ad 38), .ref (ad 43), .ref (ad 47), .ref (ad 50), .ref (ad 1)])) := rfl
theorem jc_1 : (jw cI cL ad σ τ)[1]? = some (ad 1, .inl (cI, 8, .inl (σ 1))) := rfl
theorem jc_2 : (jw cI cL ad σ τ)[2]? = some (ad 2, .inr (3, [.int (σ 2 0), .int (σ 2 1), .int (σ 2 2), .int (σ 2 3), .ref (ad 3), .ref (ad 4), .ref (ad 5), .ref (ad 6), .ref (ad 7), .ref (ad 8)])) := rfl
theorem jc_3 : (jw cI cL ad σ τ)[3]? = some (ad 3, .inl (cI, 68, .inl (σ 3))) := rfl
theorem jc_4 : (jw cI cL ad σ τ)[4]? = some (ad 4, .inl (cI, 4, .inl (σ 4))) := rfl
theorem jc_5 : (jw cI cL ad σ τ)[5]? = some (ad 5, .inl (cI, 4, .inl (σ 5))) := rfl
theorem jc_6 : (jw cI cL ad σ τ)[6]? = some (ad 6, .inl (cI, 40, .inl (σ 6))) := rfl
theorem jc_7 : (jw cI cL ad σ τ)[7]? = some (ad 7, .inl (cI, 40, .inl (σ 7))) := rfl
theorem jc_8 : (jw cI cL ad σ τ)[8]? = some (ad 8, .inl (cI, 40, .inl (σ 8))) := rfl
theorem jc_9 : (jw cI cL ad σ τ)[9]? = some (ad 9, .inr (6, [.int (σ 9 0), .int (σ 9 1), .int (σ 9 2), .ref (ad 10), .ref (ad 11), .ref (ad 12)])) := rfl
theorem jc_10 : (jw cI cL ad σ τ)[10]? = some (ad 10, .inl (cI, 80, .inl (σ 10))) := rfl
theorem jc_11 : (jw cI cL ad σ τ)[11]? = some (ad 11, .inl (cI, 8, .inl (σ 11))) := rfl
theorem jc_12 : (jw cI cL ad σ τ)[12]? = some (ad 12, .inr (9, [.int (σ 12 0), .int (σ 12 1), .ref (ad 13), .ref (ad 14), .ref (ad 15)])) := rfl
theorem jc_13 : (jw cI cL ad σ τ)[13]? = some (ad 13, .inl (cI, 160, .inl (σ 13))) := rfl
theorem jc_14 : (jw cI cL ad σ τ)[14]? = some (ad 14, .inl (cI, 8, .inl (σ 14))) := rfl
theorem jc_15 : (jw cI cL ad σ τ)[15]? = some (ad 15, .inl (cI, 160, .inl (σ 15))) := rfl
theorem jc_16 : (jw cI cL ad σ τ)[16]? = some (ad 16, .inr (5, [.int (σ 16 0), .int (σ 16 1), .int (σ 16 2), .ref (ad 17)])) := rfl
theorem jc_17 : (jw cI cL ad σ τ)[17]? = some (ad 17, .inl (cI, 8, .inl (σ 17))) := rfl
theorem jc_18 : (jw cI cL ad σ τ)[18]? = some (ad 18, .inr (9, [.int (σ 18 0), .int (σ 18 1), .ref (ad 19), .ref (ad 20), .ref (ad 21)])) := rfl
theorem jc_19 : (jw cI cL ad σ τ)[19]? = some (ad 19, .inl (cI, 160, .inl (σ 19))) := rfl
theorem jc_20 : (jw cI cL ad σ τ)[20]? = some (ad 20, .inl (cI, 8, .inl (σ 20))) := rfl
theorem jc_21 : (jw cI cL ad σ τ)[21]? = some (ad 21, .inl (cI, 160, .inl (σ 21))) := rfl
theorem jc_22 : (jw cI cL ad σ τ)[22]? = some (ad 22, .inr (9, [.int (σ 22 0), .int (σ 22 1), .ref (ad 23), .ref (ad 24), .ref (ad 25)])) := rfl
theorem jc_23 : (jw cI cL ad σ τ)[23]? = some (ad 23, .inl (cI, 160, .inl (σ 23))) := rfl
theorem jc_24 : (jw cI cL ad σ τ)[24]? = some (ad 24, .inl (cI, 8, .inl (σ 24))) := rfl
theorem jc_25 : (jw cI cL ad σ τ)[25]? = some (ad 25, .inl (cI, 160, .inl (σ 25))) := rfl
theorem jc_26 : (jw cI cL ad σ τ)[26]? = some (ad 26, .inr (4, [.ref (ad 22), .ref (ad 2), .ref (ad 27), .ref (ad 28), .ref (ad 29), .ref (ad 30), .int (σ 26 6), .int (σ 26 7)])) := rfl
theorem jc_27 : (jw cI cL ad σ τ)[27]? = some (ad 27, .inl (cI, 64, .inl (σ 27))) := rfl
theorem jc_28 : (jw cI cL ad σ τ)[28]? = some (ad 28, .inl (cI, 64, .inl (σ 28))) := rfl
theorem jc_29 : (jw cI cL ad σ τ)[29]? = some (ad 29, .inl (cI, 4096, .inl (σ 29))) := rfl
theorem jc_30 : (jw cI cL ad σ τ)[30]? = some (ad 30, .inl (cI, 4096, .inl (σ 30))) := rfl
theorem jc_31 : (jw cI cL ad σ τ)[31]? = some (ad 31, .inr (0, [.ref (ad 26), .ref (ad 16), .ref (ad 32), .ref (ad 33), .ref (ad 34), .ref (ad 35), .ref (ad 36), .ref (ad 37), .int (σ 31 8), .int (σ 31 9), .int (σ 31 10), .int (σ 31 11), .int (σ 31 12)])) := rfl
theorem jc_32 : (jw cI cL ad σ τ)[32]? = some (ad 32, .inl (cI, 350, .inl (σ 32))) := rfl
theorem jc_33 : (jw cI cL ad σ τ)[33]? = some (ad 33, .inl (cI, 1400, .inl (σ 33))) := rfl
theorem jc_34 : (jw cI cL ad σ τ)[34]? = some (ad 34, .inl (cI, 3159, .inl (σ 34))) := rfl
theorem jc_35 : (jw cI cL ad σ τ)[35]? = some (ad 35, .inl (cI, 3159, .inl (σ 35))) := rfl
theorem jc_36 : (jw cI cL ad σ τ)[36]? = some (ad 36, .inl (cI, 1024, .inl (σ 36))) := rfl
theorem jc_37 : (jw cI cL ad σ τ)[37]? = some (ad 37, .inl (cI, 350, .inl (σ 37))) := rfl
theorem jc_38 : (jw cI cL ad σ τ)[38]? = some (ad 38, .inr (7, [.int (σ 38 0), .int (σ 38 1), .ref (ad 39), .ref (ad 40), .ref (ad 41), .ref (ad 42)])) := rfl
theorem jc_39 : (jw cI cL ad σ τ)[39]? = some (ad 39, .inl (cI, 20, .inl (σ 39))) := rfl
theorem jc_40 : (jw cI cL ad σ τ)[40]? = some (ad 40, .inl (cI, 20, .inl (σ 40))) := rfl
theorem jc_41 : (jw cI cL ad σ τ)[41]? = some (ad 41, .inl (cI, 20, .inl (σ 41))) := rfl
theorem jc_42 : (jw cI cL ad σ τ)[42]? = some (ad 42, .inl (cI, 24, .inl (σ 42))) := rfl
theorem jc_43 : (jw cI cL ad σ τ)[43]? = some (ad 43, .inr (2, [.ref (ad 38), .ref (ad 26), .ref (ad 31), .ref (ad 16), .ref (ad 18), .ref (ad 44), .ref (ad 45), .ref (ad 46), .int (σ 43 8)])) := rfl
theorem jc_44 : (jw cI cL ad σ τ)[44]? = some (ad 44, .inl (cI, 8, .inl (σ 44))) := rfl
theorem jc_45 : (jw cI cL ad σ τ)[45]? = some (ad 45, .inl (cI, 8, .inl (σ 45))) := rfl
theorem jc_46 : (jw cI cL ad σ τ)[46]? = some (ad 46, .inl (cI, 8, .inl (σ 46))) := rfl
theorem jc_47 : (jw cI cL ad σ τ)[47]? = some (ad 47, .inr (1, [.int (σ 47 0), .ref (ad 48), .ref (ad 49)])) := rfl
theorem jc_48 : (jw cI cL ad σ τ)[48]? = some (ad 48, .inl (cI, 12, .inl (σ 48))) := rfl
theorem jc_49 : (jw cI cL ad σ τ)[49]? = some (ad 49, .inl (cI, 12, .inl (σ 49))) := rfl
theorem jc_50 : (jw cI cL ad σ τ)[50]? = some (ad 50, .inr (8, [.ref (ad 38), .ref (ad 51), .ref (ad 52), .ref (ad 53), .ref (ad 54)])) := rfl
theorem jc_51 : (jw cI cL ad σ τ)[51]? = some (ad 51, .inl (cI, 6, .inl (σ 51))) := rfl
theorem jc_52 : (jw cI cL ad σ τ)[52]? = some (ad 52, .inl (cI, 6, .inl (σ 52))) := rfl
theorem jc_53 : (jw cI cL ad σ τ)[53]? = some (ad 53, .inl (cI, 6, .inl (σ 53))) := rfl
theorem jc_54 : (jw cI cL ad σ τ)[54]? = some (ad 54, .inl (cL, 360, .inr (.inl (τ 54)))) := rfl
theorem jc_55 : (jw cI cL ad σ τ)[55]? = some (ad 55, .inr (11, [.ref (ad 56), .ref (ad 57), .ref (ad 58), .ref (ad 59), .int (σ 55 4), .int (σ 55 5), .int (σ 55 6), .ref (ad 60), .ref (ad 61), .int (σ 55 9), .int (σ 55 10), .ref (ad 62), .int (σ 55 12), .int (σ 55 13), .ref (ad 63), .int (σ 55 15), .ref (ad 64), .ref (ad 65), .int (σ 55 18), .int (σ 55 19), .int (σ 55 20), .int (σ 55 21), .int (σ 55 22), .ref (ad 66), .ref (ad 67), .int (σ 55 25), .int (σ 55 26), .int (σ 55 27), .ref (ad 68), .ref (ad 69), .int (σ 55 30), .int (σ 55 31), .int (σ 55 32), .ref (ad 70), .ref (ad 71), .ref (ad 72), .ref (ad 73), .int (σ 55 37), .ref (ad 74), .ref (ad 75), .ref (ad 76), .ref (ad 77), .int (σ 55 42), .ref (ad 78), .ref (ad 79), .int (σ 55 45), .int (σ 55 46), .int (σ 55 47), .ref (ad 80), .ref (ad 81), .int (σ 55 50), .ref (ad 82), .ref (ad 83), .ref (ad 84), .ref (ad 85), .int (σ 55 55), .int (σ 55 56), .int (σ 55 57), .ref (ad 86), .ref (ad 87), .ref (ad 88), .ref (ad 89)])) := rfl
theorem jc_56 : (jw cI cL ad σ τ)[56]? = some (ad 56, .inl (cI, 68, .inl (σ 56))) := rfl
theorem jc_57 : (jw cI cL ad σ τ)[57]? = some (ad 57, .inl (cI, 40, .inl (σ 57))) := rfl
theorem jc_58 : (jw cI cL ad σ τ)[58]? = some (ad 58, .inl (cI, 40, .inl (σ 58))) := rfl
theorem jc_59 : (jw cI cL ad σ τ)[59]? = some (ad 59, .inl (cI, 40, .inl (σ 59))) := rfl
theorem jc_60 : (jw cI cL ad σ τ)[60]? = some (ad 60, .inl (cI, 4, .inl (σ 60))) := rfl
theorem jc_61 : (jw cI cL ad σ τ)[61]? = some (ad 61, .inl (cI, 4, .inl (σ 61))) := rfl
theorem jc_62 : (jw cI cL ad σ τ)[62]? = some (ad 62, .inl (cI, 8, .inl (σ 62))) := rfl
theorem jc_63 : (jw cI cL ad σ τ)[63]? = some (ad 63, .inl (cI, 80, .inl (σ 63))) := rfl
theorem jc_64 : (jw cI cL ad σ τ)[64]? = some (ad 64, .inl (cI, 160, .inl (σ 64))) := rfl
theorem jc_65 : (jw cI cL ad σ τ)[65]? = some (ad 65, .inl (cI, 2, .inl (σ 65))) := rfl
theorem jc_66 : (jw cI cL ad σ τ)[66]? = some (ad 66, .inl (cI, 8, .inl (σ 66))) := rfl
theorem jc_67 : (jw cI cL ad σ τ)[67]? = some (ad 67, .inl (cI, 8, .inl (σ 67))) := rfl
theorem jc_68 : (jw cI cL ad σ τ)[68]? = some (ad 68, .inl (cI, 4, .inl (σ 68))) := rfl
theorem jc_69 : (jw cI cL ad σ τ)[69]? = some (ad 69, .inl (cI, 4, .inl (σ 69))) := rfl
theorem jc_70 : (jw cI cL ad σ τ)[70]? = some (ad 70, .inl (cI, 20, .inl (σ 70))) := rfl
theorem jc_71 : (jw cI cL ad σ τ)[71]? = some (ad 71, .inl (cI, 20, .inl (σ 71))) := rfl
theorem jc_72 : (jw cI cL ad σ τ)[72]? = some (ad 72, .inl (cI, 160, .inl (σ 72))) := rfl
theorem jc_73 : (jw cI cL ad σ τ)[73]? = some (ad 73, .inl (cI, 20, .inl (σ 73))) := rfl
theorem jc_74 : (jw cI cL ad σ τ)[74]? = some (ad 74, .inl (cI, 65536, .inl (σ 74))) := rfl
theorem jc_75 : (jw cI cL ad σ τ)[75]? = some (ad 75, .inl (cI, 65536, .inl (σ 75))) := rfl
theorem jc_76 : (jw cI cL ad σ τ)[76]? = some (ad 76, .inl (cI, 65536, .inl (σ 76))) := rfl
theorem jc_77 : (jw cI cL ad σ τ)[77]? = some (ad 77, .inl (cI, 65536, .inl (σ 77))) := rfl
theorem jc_78 : (jw cI cL ad σ τ)[78]? = some (ad 78, .inl (cI, 65536, .inl (σ 78))) := rfl
theorem jc_79 : (jw cI cL ad σ τ)[79]? = some (ad 79, .inl (cI, 5, .inl (σ 79))) := rfl
theorem jc_80 : (jw cI cL ad σ τ)[80]? = some (ad 80, .inl (cI, 12, .inl (σ 80))) := rfl
theorem jc_81 : (jw cI cL ad σ τ)[81]? = some (ad 81, .inl (cI, 12, .inl (σ 81))) := rfl
theorem jc_82 : (jw cI cL ad σ τ)[82]? = some (ad 82, .inl (cI, 12, .inl (σ 82))) := rfl
theorem jc_83 : (jw cI cL ad σ τ)[83]? = some (ad 83, .inl (cI, 12, .inl (σ 83))) := rfl
theorem jc_84 : (jw cI cL ad σ τ)[84]? = some (ad 84, .inl (cI, 12, .inl (σ 84))) := rfl
theorem jc_85 : (jw cI cL ad σ τ)[85]? = some (ad 85, .inl (cI, 24, .inl (σ 85))) := rfl
theorem jc_86 : (jw cI cL ad σ τ)[86]? = some (ad 86, .inl (cI, 6, .inl (σ 86))) := rfl
theorem jc_87 : (jw cI cL ad σ τ)[87]? = some (ad 87, .inl (cI, 6, .inl (σ 87))) := rfl
theorem jc_88 : (jw cI cL ad σ τ)[88]? = some (ad 88, .inl (cL, 360, .inr (.inl (τ 88)))) := rfl
theorem jc_89 : (jw cI cL ad σ τ)[89]? = some (ad 89, .inl (cL, 60, .inr (.inl (τ 89)))) := rfl
theorem ja_1 (k : Nat) (v : Int32) : (jw cI cL ad σ τ).set 1 (ad 1, .inl (cI, 8, .inl (upd (σ 1) k v))) = jw cI cL ad (jup σ 1 k v) τ := rfl
theorem jp_2_0 (v : Int32) : (jw cI cL ad σ τ).set 2 (ad 2, .inr (3, ([.int (σ 2 0), .int (σ 2 1), .int (σ 2 2), .int (σ 2 3), .ref (ad 3), .ref (ad 4), .ref (ad 5), .ref (ad 6), .ref (ad 7), .ref (ad 8)] : List Value).set 0 (.int v))) = jw cI cL ad (jup σ 2 0 v) τ := rfl
theorem jp_2_1 (v : Int32) : (jw cI cL ad σ τ).set 2 (ad 2, .inr (3, ([.int (σ 2 0), .int (σ 2 1), .int (σ 2 2), .int (σ 2 3), .ref (ad 3), .ref (ad 4), .ref (ad 5), .ref (ad 6), .ref (ad 7), .ref (ad 8)] : List Value).set 1 (.int v))) = jw cI cL ad (jup σ 2 1 v) τ := rfl
theorem jp_2_2 (v : Int32) : (jw cI cL ad σ τ).set 2 (ad 2, .inr (3, ([.int (σ 2 0), .int (σ 2 1), .int (σ 2 2), .int (σ 2 3), .ref (ad 3), .ref (ad 4), .ref (ad 5), .ref (ad 6), .ref (ad 7), .ref (ad 8)] : List Value).set 2 (.int v))) = jw cI cL ad (jup σ 2 2 v) τ := rfl
theorem jp_2_3 (v : Int32) : (jw cI cL ad σ τ).set 2 (ad 2, .inr (3, ([.int (σ 2 0), .int (σ 2 1), .int (σ 2 2), .int (σ 2 3), .ref (ad 3), .ref (ad 4), .ref (ad 5), .ref (ad 6), .ref (ad 7), .ref (ad 8)] : List Value).set 3 (.int v))) = jw cI cL ad (jup σ 2 3 v) τ := rfl
theorem ja_3 (k : Nat) (v : Int32) : (jw cI cL ad σ τ).set 3 (ad 3, .inl (cI, 68, .inl (upd (σ 3) k v))) = jw cI cL ad (jup σ 3 k v) τ := rfl
theorem ja_4 (k : Nat) (v : Int32) : (jw cI cL ad σ τ).set 4 (ad 4, .inl (cI, 4, .inl (upd (σ 4) k v))) = jw cI cL ad (jup σ 4 k v) τ := rfl
theorem ja_5 (k : Nat) (v : Int32) : (jw cI cL ad σ τ).set 5 (ad 5, .inl (cI, 4, .inl (upd (σ 5) k v))) = jw cI cL ad (jup σ 5 k v) τ := rfl
theorem ja_6 (k : Nat) (v : Int32) : (jw cI cL ad σ τ).set 6 (ad 6, .inl (cI, 40, .inl (upd (σ 6) k v))) = jw cI cL ad (jup σ 6 k v) τ := rfl
theorem ja_7 (k : Nat) (v : Int32) : (jw cI cL ad σ τ).set 7 (ad 7, .inl (cI, 40, .inl (upd (σ 7) k v))) = jw cI cL ad (jup σ 7 k v) τ := rfl
theorem ja_8 (k : Nat) (v : Int32) : (jw cI cL ad σ τ).set 8 (ad 8, .inl (cI, 40, .inl (upd (σ 8) k v))) = jw cI cL ad (jup σ 8 k v) τ := rfl
theorem jp_9_0 (v : Int32) : (jw cI cL ad σ τ).set 9 (ad 9, .inr (6, ([.int (σ 9 0), .int (σ 9 1), .int (σ 9 2), .ref (ad 10), .ref (ad 11), .ref (ad 12)] : List Value).set 0 (.int v))) = jw cI cL ad (jup σ 9 0 v) τ := rfl
theorem jp_9_1 (v : Int32) : (jw cI cL ad σ τ).set 9 (ad 9, .inr (6, ([.int (σ 9 0), .int (σ 9 1), .int (σ 9 2), .ref (ad 10), .ref (ad 11), .ref (ad 12)] : List Value).set 1 (.int v))) = jw cI cL ad (jup σ 9 1 v) τ := rfl
theorem jp_9_2 (v : Int32) : (jw cI cL ad σ τ).set 9 (ad 9, .inr (6, ([.int (σ 9 0), .int (σ 9 1), .int (σ 9 2), .ref (ad 10), .ref (ad 11), .ref (ad 12)] : List Value).set 2 (.int v))) = jw cI cL ad (jup σ 9 2 v) τ := rfl
theorem ja_10 (k : Nat) (v : Int32) : (jw cI cL ad σ τ).set 10 (ad 10, .inl (cI, 80, .inl (upd (σ 10) k v))) = jw cI cL ad (jup σ 10 k v) τ := rfl
theorem ja_11 (k : Nat) (v : Int32) : (jw cI cL ad σ τ).set 11 (ad 11, .inl (cI, 8, .inl (upd (σ 11) k v))) = jw cI cL ad (jup σ 11 k v) τ := rfl
theorem jp_12_0 (v : Int32) : (jw cI cL ad σ τ).set 12 (ad 12, .inr (9, ([.int (σ 12 0), .int (σ 12 1), .ref (ad 13), .ref (ad 14), .ref (ad 15)] : List Value).set 0 (.int v))) = jw cI cL ad (jup σ 12 0 v) τ := rfl
theorem jp_12_1 (v : Int32) : (jw cI cL ad σ τ).set 12 (ad 12, .inr (9, ([.int (σ 12 0), .int (σ 12 1), .ref (ad 13), .ref (ad 14), .ref (ad 15)] : List Value).set 1 (.int v))) = jw cI cL ad (jup σ 12 1 v) τ := rfl
theorem ja_13 (k : Nat) (v : Int32) : (jw cI cL ad σ τ).set 13 (ad 13, .inl (cI, 160, .inl (upd (σ 13) k v))) = jw cI cL ad (jup σ 13 k v) τ := rfl
theorem ja_14 (k : Nat) (v : Int32) : (jw cI cL ad σ τ).set 14 (ad 14, .inl (cI, 8, .inl (upd (σ 14) k v))) = jw cI cL ad (jup σ 14 k v) τ := rfl
theorem ja_15 (k : Nat) (v : Int32) : (jw cI cL ad σ τ).set 15 (ad 15, .inl (cI, 160, .inl (upd (σ 15) k v))) = jw cI cL ad (jup σ 15 k v) τ := rfl
theorem jp_16_0 (v : Int32) : (jw cI cL ad σ τ).set 16 (ad 16, .inr (5, ([.int (σ 16 0), .int (σ 16 1), .int (σ 16 2), .ref (ad 17)] : List Value).set 0 (.int v))) = jw cI cL ad (jup σ 16 0 v) τ := rfl
theorem jp_16_1 (v : Int32) : (jw cI cL ad σ τ).set 16 (ad 16, .inr (5, ([.int (σ 16 0), .int (σ 16 1), .int (σ 16 2), .ref (ad 17)] : List Value).set 1 (.int v))) = jw cI cL ad (jup σ 16 1 v) τ := rfl
theorem jp_16_2 (v : Int32) : (jw cI cL ad σ τ).set 16 (ad 16, .inr (5, ([.int (σ 16 0), .int (σ 16 1), .int (σ 16 2), .ref (ad 17)] : List Value).set 2 (.int v))) = jw cI cL ad (jup σ 16 2 v) τ := rfl
theorem ja_17 (k : Nat) (v : Int32) : (jw cI cL ad σ τ).set 17 (ad 17, .inl (cI, 8, .inl (upd (σ 17) k v))) = jw cI cL ad (jup σ 17 k v) τ := rfl
theorem jp_18_0 (v : Int32) : (jw cI cL ad σ τ).set 18 (ad 18, .inr (9, ([.int (σ 18 0), .int (σ 18 1), .ref (ad 19), .ref (ad 20), .ref (ad 21)] : List Value).set 0 (.int v))) = jw cI cL ad (jup σ 18 0 v) τ := rfl
theorem jp_18_1 (v : Int32) : (jw cI cL ad σ τ).set 18 (ad 18, .inr (9, ([.int (σ 18 0), .int (σ 18 1), .ref (ad 19), .ref (ad 20), .ref (ad 21)] : List Value).set 1 (.int v))) = jw cI cL ad (jup σ 18 1 v) τ := rfl
theorem ja_19 (k : Nat) (v : Int32) : (jw cI cL ad σ τ).set 19 (ad 19, .inl (cI, 160, .inl (upd (σ 19) k v))) = jw cI cL ad (jup σ 19 k v) τ := rfl
theorem ja_20 (k : Nat) (v : Int32) : (jw cI cL ad σ τ).set 20 (ad 20, .inl (cI, 8, .inl (upd (σ 20) k v))) = jw cI cL ad (jup σ 20 k v) τ := rfl
theorem ja_21 (k : Nat) (v : Int32) : (jw cI cL ad σ τ).set 21 (ad 21, .inl (cI, 160, .inl (upd (σ 21) k v))) = jw cI cL ad (jup σ 21 k v) τ := rfl
theorem jp_22_0 (v : Int32) : (jw cI cL ad σ τ).set 22 (ad 22, .inr (9, ([.int (σ 22 0), .int (σ 22 1), .ref (ad 23), .ref (ad 24), .ref (ad 25)] : List Value).set 0 (.int v))) = jw cI cL ad (jup σ 22 0 v) τ := rfl
theorem jp_22_1 (v : Int32) : (jw cI cL ad σ τ).set 22 (ad 22, .inr (9, ([.int (σ 22 0), .int (σ 22 1), .ref (ad 23), .ref (ad 24), .ref (ad 25)] : List Value).set 1 (.int v))) = jw cI cL ad (jup σ 22 1 v) τ := rfl
theorem ja_23 (k : Nat) (v : Int32) : (jw cI cL ad σ τ).set 23 (ad 23, .inl (cI, 160, .inl (upd (σ 23) k v))) = jw cI cL ad (jup σ 23 k v) τ := rfl
theorem ja_24 (k : Nat) (v : Int32) : (jw cI cL ad σ τ).set 24 (ad 24, .inl (cI, 8, .inl (upd (σ 24) k v))) = jw cI cL ad (jup σ 24 k v) τ := rfl
theorem ja_25 (k : Nat) (v : Int32) : (jw cI cL ad σ τ).set 25 (ad 25, .inl (cI, 160, .inl (upd (σ 25) k v))) = jw cI cL ad (jup σ 25 k v) τ := rfl
theorem jp_26_6 (v : Int32) : (jw cI cL ad σ τ).set 26 (ad 26, .inr (4, ([.ref (ad 22), .ref (ad 2), .ref (ad 27), .ref (ad 28), .ref (ad 29), .ref (ad 30), .int (σ 26 6), .int (σ 26 7)] : List Value).set 6 (.int v))) = jw cI cL ad (jup σ 26 6 v) τ := rfl
theorem jp_26_7 (v : Int32) : (jw cI cL ad σ τ).set 26 (ad 26, .inr (4, ([.ref (ad 22), .ref (ad 2), .ref (ad 27), .ref (ad 28), .ref (ad 29), .ref (ad 30), .int (σ 26 6), .int (σ 26 7)] : List Value).set 7 (.int v))) = jw cI cL ad (jup σ 26 7 v) τ := rfl
theorem ja_27 (k : Nat) (v : Int32) : (jw cI cL ad σ τ).set 27 (ad 27, .inl (cI, 64, .inl (upd (σ 27) k v))) = jw cI cL ad (jup σ 27 k v) τ := rfl
theorem ja_28 (k : Nat) (v : Int32) : (jw cI cL ad σ τ).set 28 (ad 28, .inl (cI, 64, .inl (upd (σ 28) k v))) = jw cI cL ad (jup σ 28 k v) τ := rfl
theorem ja_29 (k : Nat) (v : Int32) : (jw cI cL ad σ τ).set 29 (ad 29, .inl (cI, 4096, .inl (upd (σ 29) k v))) = jw cI cL ad (jup σ 29 k v) τ := rfl
theorem ja_30 (k : Nat) (v : Int32) : (jw cI cL ad σ τ).set 30 (ad 30, .inl (cI, 4096, .inl (upd (σ 30) k v))) = jw cI cL ad (jup σ 30 k v) τ := rfl
theorem jp_31_8 (v : Int32) : (jw cI cL ad σ τ).set 31 (ad 31, .inr (0, ([.ref (ad 26), .ref (ad 16), .ref (ad 32), .ref (ad 33), .ref (ad 34), .ref (ad 35), .ref (ad 36), .ref (ad 37), .int (σ 31 8), .int (σ 31 9), .int (σ 31 10), .int (σ 31 11), .int (σ 31 12)] : List Value).set 8 (.int v))) = jw cI cL ad (jup σ 31 8 v) τ := rfl
theorem jp_31_9 (v : Int32) : (jw cI cL ad σ τ).set 31 (ad 31, .inr (0, ([.ref (ad 26), .ref (ad 16), .ref (ad 32), .ref (ad 33), .ref (ad 34), .ref (ad 35), .ref (ad 36), .ref (ad 37), .int (σ 31 8), .int (σ 31 9), .int (σ 31 10), .int (σ 31 11), .int (σ 31 12)] : List Value).set 9 (.int v))) = jw cI cL ad (jup σ 31 9 v) τ := rfl
theorem jp_31_10 (v : Int32) : (jw cI cL ad σ τ).set 31 (ad 31, .inr (0, ([.ref (ad 26), .ref (ad 16), .ref (ad 32), .ref (ad 33), .ref (ad 34), .ref (ad 35), .ref (ad 36), .ref (ad 37), .int (σ 31 8), .int (σ 31 9), .int (σ 31 10), .int (σ 31 11), .int (σ 31 12)] : List Value).set 10 (.int v))) = jw cI cL ad (jup σ 31 10 v) τ := rfl
theorem jp_31_11 (v : Int32) : (jw cI cL ad σ τ).set 31 (ad 31, .inr (0, ([.ref (ad 26), .ref (ad 16), .ref (ad 32), .ref (ad 33), .ref (ad 34), .ref (ad 35), .ref (ad 36), .ref (ad 37), .int (σ 31 8), .int (σ 31 9), .int (σ 31 10), .int (σ 31 11), .int (σ 31 12)] : List Value).set 11 (.int v))) = jw cI cL ad (jup σ 31 11 v) τ := rfl
theorem jp_31_12 (v : Int32) : (jw cI cL ad σ τ).set 31 (ad 31, .inr (0, ([.ref (ad 26), .ref (ad 16), .ref (ad 32), .ref (ad 33), .ref (ad 34), .ref (ad 35), .ref (ad 36), .ref (ad 37), .int (σ 31 8), .int (σ 31 9), .int (σ 31 10), .int (σ 31 11), .int (σ 31 12)] : List Value).set 12 (.int v))) = jw cI cL ad (jup σ 31 12 v) τ := rfl
theorem ja_32 (k : Nat) (v : Int32) : (jw cI cL ad σ τ).set 32 (ad 32, .inl (cI, 350, .inl (upd (σ 32) k v))) = jw cI cL ad (jup σ 32 k v) τ := rfl
theorem ja_33 (k : Nat) (v : Int32) : (jw cI cL ad σ τ).set 33 (ad 33, .inl (cI, 1400, .inl (upd (σ 33) k v))) = jw cI cL ad (jup σ 33 k v) τ := rfl
theorem ja_34 (k : Nat) (v : Int32) : (jw cI cL ad σ τ).set 34 (ad 34, .inl (cI, 3159, .inl (upd (σ 34) k v))) = jw cI cL ad (jup σ 34 k v) τ := rfl
theorem ja_35 (k : Nat) (v : Int32) : (jw cI cL ad σ τ).set 35 (ad 35, .inl (cI, 3159, .inl (upd (σ 35) k v))) = jw cI cL ad (jup σ 35 k v) τ := rfl
theorem ja_36 (k : Nat) (v : Int32) : (jw cI cL ad σ τ).set 36 (ad 36, .inl (cI, 1024, .inl (upd (σ 36) k v))) = jw cI cL ad (jup σ 36 k v) τ := rfl
theorem ja_37 (k : Nat) (v : Int32) : (jw cI cL ad σ τ).set 37 (ad 37, .inl (cI, 350, .inl (upd (σ 37) k v))) = jw cI cL ad (jup σ 37 k v) τ := rfl
theorem jp_38_0 (v : Int32) : (jw cI cL ad σ τ).set 38 (ad 38, .inr (7, ([.int (σ 38 0), .int (σ 38 1), .ref (ad 39), .ref (ad 40), .ref (ad 41), .ref (ad 42)] : List Value).set 0 (.int v))) = jw cI cL ad (jup σ 38 0 v) τ := rfl
theorem jp_38_1 (v : Int32) : (jw cI cL ad σ τ).set 38 (ad 38, .inr (7, ([.int (σ 38 0), .int (σ 38 1), .ref (ad 39), .ref (ad 40), .ref (ad 41), .ref (ad 42)] : List Value).set 1 (.int v))) = jw cI cL ad (jup σ 38 1 v) τ := rfl
theorem ja_39 (k : Nat) (v : Int32) : (jw cI cL ad σ τ).set 39 (ad 39, .inl (cI, 20, .inl (upd (σ 39) k v))) = jw cI cL ad (jup σ 39 k v) τ := rfl
theorem ja_40 (k : Nat) (v : Int32) : (jw cI cL ad σ τ).set 40 (ad 40, .inl (cI, 20, .inl (upd (σ 40) k v))) = jw cI cL ad (jup σ 40 k v) τ := rfl
theorem ja_41 (k : Nat) (v : Int32) : (jw cI cL ad σ τ).set 41 (ad 41, .inl (cI, 20, .inl (upd (σ 41) k v))) = jw cI cL ad (jup σ 41 k v) τ := rfl
theorem ja_42 (k : Nat) (v : Int32) : (jw cI cL ad σ τ).set 42 (ad 42, .inl (cI, 24, .inl (upd (σ 42) k v))) = jw cI cL ad (jup σ 42 k v) τ := rfl
theorem jp_43_8 (v : Int32) : (jw cI cL ad σ τ).set 43 (ad 43, .inr (2, ([.ref (ad 38), .ref (ad 26), .ref (ad 31), .ref (ad 16), .ref (ad 18), .ref (ad 44), .ref (ad 45), .ref (ad 46), .int (σ 43 8)] : List Value).set 8 (.int v))) = jw cI cL ad (jup σ 43 8 v) τ := rfl
theorem ja_44 (k : Nat) (v : Int32) : (jw cI cL ad σ τ).set 44 (ad 44, .inl (cI, 8, .inl (upd (σ 44) k v))) = jw cI cL ad (jup σ 44 k v) τ := rfl
theorem ja_45 (k : Nat) (v : Int32) : (jw cI cL ad σ τ).set 45 (ad 45, .inl (cI, 8, .inl (upd (σ 45) k v))) = jw cI cL ad (jup σ 45 k v) τ := rfl
theorem ja_46 (k : Nat) (v : Int32) : (jw cI cL ad σ τ).set 46 (ad 46, .inl (cI, 8, .inl (upd (σ 46) k v))) = jw cI cL ad (jup σ 46 k v) τ := rfl
theorem jp_47_0 (v : Int32) : (jw cI cL ad σ τ).set 47 (ad 47, .inr (1, ([.int (σ 47 0), .ref (ad 48), .ref (ad 49)] : List Value).set 0 (.int v))) = jw cI cL ad (jup σ 47 0 v) τ := rfl
theorem ja_48 (k : Nat) (v : Int32) : (jw cI cL ad σ τ).set 48 (ad 48, .inl (cI, 12, .inl (upd (σ 48) k v))) = jw cI cL ad (jup σ 48 k v) τ := rfl
theorem ja_49 (k : Nat) (v : Int32) : (jw cI cL ad σ τ).set 49 (ad 49, .inl (cI, 12, .inl (upd (σ 49) k v))) = jw cI cL ad (jup σ 49 k v) τ := rfl
theorem ja_51 (k : Nat) (v : Int32) : (jw cI cL ad σ τ).set 51 (ad 51, .inl (cI, 6, .inl (upd (σ 51) k v))) = jw cI cL ad (jup σ 51 k v) τ := rfl
theorem ja_52 (k : Nat) (v : Int32) : (jw cI cL ad σ τ).set 52 (ad 52, .inl (cI, 6, .inl (upd (σ 52) k v))) = jw cI cL ad (jup σ 52 k v) τ := rfl
theorem ja_53 (k : Nat) (v : Int32) : (jw cI cL ad σ τ).set 53 (ad 53, .inl (cI, 6, .inl (upd (σ 53) k v))) = jw cI cL ad (jup σ 53 k v) τ := rfl
theorem ja_54 (k : Nat) (v : Int64) : (jw cI cL ad σ τ).set 54 (ad 54, .inl (cL, 360, .inr (.inl (vp_updL (τ 54) k v)))) = jw cI cL ad σ (jupL τ 54 k v) := rfl
theorem jp_55_4 (v : Int32) : (jw cI cL ad σ τ).set 55 (ad 55, .inr (11, ([.ref (ad 56), .ref (ad 57), .ref (ad 58), .ref (ad 59), .int (σ 55 4), .int (σ 55 5), .int (σ 55 6), .ref (ad 60), .ref (ad 61), .int (σ 55 9), .int (σ 55 10), .ref (ad 62), .int (σ 55 12), .int (σ 55 13), .ref (ad 63), .int (σ 55 15), .ref (ad 64), .ref (ad 65), .int (σ 55 18), .int (σ 55 19), .int (σ 55 20), .int (σ 55 21), .int (σ 55 22), .ref (ad 66), .ref (ad 67), .int (σ 55 25), .int (σ 55 26), .int (σ 55 27), .ref (ad 68), .ref (ad 69), .int (σ 55 30), .int (σ 55 31), .int (σ 55 32), .ref (ad 70), .ref (ad 71), .ref (ad 72), .ref (ad 73), .int (σ 55 37), .ref (ad 74), .ref (ad 75), .ref (ad 76), .ref (ad 77), .int (σ 55 42), .ref (ad 78), .ref (ad 79), .int (σ 55 45), .int (σ 55 46), .int (σ 55 47), .ref (ad 80), .ref (ad 81), .int (σ 55 50), .ref (ad 82), .ref (ad 83), .ref (ad 84), .ref (ad 85), .int (σ 55 55), .int (σ 55 56), .int (σ 55 57), .ref (ad 86), .ref (ad 87), .ref (ad 88), .ref (ad 89)] : List Value).set 4 (.int v))) = jw cI cL ad (jup σ 55 4 v) τ := rfl
theorem jp_55_5 (v : Int32) : (jw cI cL ad σ τ).set 55 (ad 55, .inr (11, ([.ref (ad 56), .ref (ad 57), .ref (ad 58), .ref (ad 59), .int (σ 55 4), .int (σ 55 5), .int (σ 55 6), .ref (ad 60), .ref (ad 61), .int (σ 55 9), .int (σ 55 10), .ref (ad 62), .int (σ 55 12), .int (σ 55 13), .ref (ad 63), .int (σ 55 15), .ref (ad 64), .ref (ad 65), .int (σ 55 18), .int (σ 55 19), .int (σ 55 20), .int (σ 55 21), .int (σ 55 22), .ref (ad 66), .ref (ad 67), .int (σ 55 25), .int (σ 55 26), .int (σ 55 27), .ref (ad 68), .ref (ad 69), .int (σ 55 30), .int (σ 55 31), .int (σ 55 32), .ref (ad 70), .ref (ad 71), .ref (ad 72), .ref (ad 73), .int (σ 55 37), .ref (ad 74), .ref (ad 75), .ref (ad 76), .ref (ad 77), .int (σ 55 42), .ref (ad 78), .ref (ad 79), .int (σ 55 45), .int (σ 55 46), .int (σ 55 47), .ref (ad 80), .ref (ad 81), .int (σ 55 50), .ref (ad 82), .ref (ad 83), .ref (ad 84), .ref (ad 85), .int (σ 55 55), .int (σ 55 56), .int (σ 55 57), .ref (ad 86), .ref (ad 87), .ref (ad 88), .ref (ad 89)] : List Value).set 5 (.int v))) = jw cI cL ad (jup σ 55 5 v) τ := rfl
theorem jp_55_6 (v : Int32) : (jw cI cL ad σ τ).set 55 (ad 55, .inr (11, ([.ref (ad 56), .ref (ad 57), .ref (ad 58), .ref (ad 59), .int (σ 55 4), .int (σ 55 5), .int (σ 55 6), .ref (ad 60), .ref (ad 61), .int (σ 55 9), .int (σ 55 10), .ref (ad 62), .int (σ 55 12), .int (σ 55 13), .ref (ad 63), .int (σ 55 15), .ref (ad 64), .ref (ad 65), .int (σ 55 18), .int (σ 55 19), .int (σ 55 20), .int (σ 55 21), .int (σ 55 22), .ref (ad 66), .ref (ad 67), .int (σ 55 25), .int (σ 55 26), .int (σ 55 27), .ref (ad 68), .ref (ad 69), .int (σ 55 30), .int (σ 55 31), .int (σ 55 32), .ref (ad 70), .ref (ad 71), .ref (ad 72), .ref (ad 73), .int (σ 55 37), .ref (ad 74), .ref (ad 75), .ref (ad 76), .ref (ad 77), .int (σ 55 42), .ref (ad 78), .ref (ad 79), .int (σ 55 45), .int (σ 55 46), .int (σ 55 47), .ref (ad 80), .ref (ad 81), .int (σ 55 50), .ref (ad 82), .ref (ad 83), .ref (ad 84), .ref (ad 85), .int (σ 55 55), .int (σ 55 56), .int (σ 55 57), .ref (ad 86), .ref (ad 87), .ref (ad 88), .ref (ad 89)] : List Value).set 6 (.int v))) = jw cI cL ad (jup σ 55 6 v) τ := rfl
theorem jp_55_9 (v : Int32) : (jw cI cL ad σ τ).set 55 (ad 55, .inr (11, ([.ref (ad 56), .ref (ad 57), .ref (ad 58), .ref (ad 59), .int (σ 55 4), .int (σ 55 5), .int (σ 55 6), .ref (ad 60), .ref (ad 61), .int (σ 55 9), .int (σ 55 10), .ref (ad 62), .int (σ 55 12), .int (σ 55 13), .ref (ad 63), .int (σ 55 15), .ref (ad 64), .ref (ad 65), .int (σ 55 18), .int (σ 55 19), .int (σ 55 20), .int (σ 55 21), .int (σ 55 22), .ref (ad 66), .ref (ad 67), .int (σ 55 25), .int (σ 55 26), .int (σ 55 27), .ref (ad 68), .ref (ad 69), .int (σ 55 30), .int (σ 55 31), .int (σ 55 32), .ref (ad 70), .ref (ad 71), .ref (ad 72), .ref (ad 73), .int (σ 55 37), .ref (ad 74), .ref (ad 75), .ref (ad 76), .ref (ad 77), .int (σ 55 42), .ref (ad 78), .ref (ad 79), .int (σ 55 45), .int (σ 55 46), .int (σ 55 47), .ref (ad 80), .ref (ad 81), .int (σ 55 50), .ref (ad 82), .ref (ad 83), .ref (ad 84), .ref (ad 85), .int (σ 55 55), .int (σ 55 56), .int (σ 55 57), .ref (ad 86), .ref (ad 87), .ref (ad 88), .ref (ad 89)] : List Value).set 9 (.int v))) = jw cI cL ad (jup σ 55 9 v) τ := rfl
theorem jp_55_10 (v : Int32) : (jw cI cL ad σ τ).set 55 (ad 55, .inr (11, ([.ref (ad 56), .ref (ad 57), .ref (ad 58), .ref (ad 59), .int (σ 55 4), .int (σ 55 5), .int (σ 55 6), .ref (ad 60), .ref (ad 61), .int (σ 55 9), .int (σ 55 10), .ref (ad 62), .int (σ 55 12), .int (σ 55 13), .ref (ad 63), .int (σ 55 15), .ref (ad 64), .ref (ad 65), .int (σ 55 18), .int (σ 55 19), .int (σ 55 20), .int (σ 55 21), .int (σ 55 22), .ref (ad 66), .ref (ad 67), .int (σ 55 25), .int (σ 55 26), .int (σ 55 27), .ref (ad 68), .ref (ad 69), .int (σ 55 30), .int (σ 55 31), .int (σ 55 32), .ref (ad 70), .ref (ad 71), .ref (ad 72), .ref (ad 73), .int (σ 55 37), .ref (ad 74), .ref (ad 75), .ref (ad 76), .ref (ad 77), .int (σ 55 42), .ref (ad 78), .ref (ad 79), .int (σ 55 45), .int (σ 55 46), .int (σ 55 47), .ref (ad 80), .ref (ad 81), .int (σ 55 50), .ref (ad 82), .ref (ad 83), .ref (ad 84), .ref (ad 85), .int (σ 55 55), .int (σ 55 56), .int (σ 55 57), .ref (ad 86), .ref (ad 87), .ref (ad 88), .ref (ad 89)] : List Value).set 10 (.int v))) = jw cI cL ad (jup σ 55 10 v) τ := rfl
theorem jp_55_12 (v : Int32) : (jw cI cL ad σ τ).set 55 (ad 55, .inr (11, ([.ref (ad 56), .ref (ad 57), .ref (ad 58), .ref (ad 59), .int (σ 55 4), .int (σ 55 5), .int (σ 55 6), .ref (ad 60), .ref (ad 61), .int (σ 55 9), .int (σ 55 10), .ref (ad 62), .int (σ 55 12), .int (σ 55 13), .ref (ad 63), .int (σ 55 15), .ref (ad 64), .ref (ad 65), .int (σ 55 18), .int (σ 55 19), .int (σ 55 20), .int (σ 55 21), .int (σ 55 22), .ref (ad 66), .ref (ad 67), .int (σ 55 25), .int (σ 55 26), .int (σ 55 27), .ref (ad 68), .ref (ad 69), .int (σ 55 30), .int (σ 55 31), .int (σ 55 32), .ref (ad 70), .ref (ad 71), .ref (ad 72), .ref (ad 73), .int (σ 55 37), .ref (ad 74), .ref (ad 75), .ref (ad 76), .ref (ad 77), .int (σ 55 42), .ref (ad 78), .ref (ad 79), .int (σ 55 45), .int (σ 55 46), .int (σ 55 47), .ref (ad 80), .ref (ad 81), .int (σ 55 50), .ref (ad 82), .ref (ad 83), .ref (ad 84), .ref (ad 85), .int (σ 55 55), .int (σ 55 56), .int (σ 55 57), .ref (ad 86), .ref (ad 87), .ref (ad 88), .ref (ad 89)] : List Value).set 12 (.int v))) = jw cI cL ad (jup σ 55 12 v) τ := rfl
theorem jp_55_13 (v : Int32) : (jw cI cL ad σ τ).set 55 (ad 55, .inr (11, ([.ref (ad 56), .ref (ad 57), .ref (ad 58), .ref (ad 59), .int (σ 55 4), .int (σ 55 5), .int (σ 55 6), .ref (ad 60), .ref (ad 61), .int (σ 55 9), .int (σ 55 10), .ref (ad 62), .int (σ 55 12), .int (σ 55 13), .ref (ad 63), .int (σ 55 15), .ref (ad 64), .ref (ad 65), .int (σ 55 18), .int (σ 55 19), .int (σ 55 20), .int (σ 55 21), .int (σ 55 22), .ref (ad 66), .ref (ad 67), .int (σ 55 25), .int (σ 55 26), .int (σ 55 27), .ref (ad 68), .ref (ad 69), .int (σ 55 30), .int (σ 55 31), .int (σ 55 32), .ref (ad 70), .ref (ad 71), .ref (ad 72), .ref (ad 73), .int (σ 55 37), .ref (ad 74), .ref (ad 75), .ref (ad 76), .ref (ad 77), .int (σ 55 42), .ref (ad 78), .ref (ad 79), .int (σ 55 45), .int (σ 55 46), .int (σ 55 47), .ref (ad 80), .ref (ad 81), .int (σ 55 50), .ref (ad 82), .ref (ad 83), .ref (ad 84), .ref (ad 85), .int (σ 55 55), .int (σ 55 56), .int (σ 55 57), .ref (ad 86), .ref (ad 87), .ref (ad 88), .ref (ad 89)] : List Value).set 13 (.int v))) = jw cI cL ad (jup σ 55 13 v) τ := rfl
theorem jp_55_15 (v : Int32) : (jw cI cL ad σ τ).set 55 (ad 55, .inr (11, ([.ref (ad 56), .ref (ad 57), .ref (ad 58), .ref (ad 59), .int (σ 55 4), .int (σ 55 5), .int (σ 55 6), .ref (ad 60), .ref (ad 61), .int (σ 55 9), .int (σ 55 10), .ref (ad 62), .int (σ 55 12), .int (σ 55 13), .ref (ad 63), .int (σ 55 15), .ref (ad 64), .ref (ad 65), .int (σ 55 18), .int (σ 55 19), .int (σ 55 20), .int (σ 55 21), .int (σ 55 22), .ref (ad 66), .ref (ad 67), .int (σ 55 25), .int (σ 55 26), .int (σ 55 27), .ref (ad 68), .ref (ad 69), .int (σ 55 30), .int (σ 55 31), .int (σ 55 32), .ref (ad 70), .ref (ad 71), .ref (ad 72), .ref (ad 73), .int (σ 55 37), .ref (ad 74), .ref (ad 75), .ref (ad 76), .ref (ad 77), .int (σ 55 42), .ref (ad 78), .ref (ad 79), .int (σ 55 45), .int (σ 55 46), .int (σ 55 47), .ref (ad 80), .ref (ad 81), .int (σ 55 50), .ref (ad 82), .ref (ad 83), .ref (ad 84), .ref (ad 85), .int (σ 55 55), .int (σ 55 56), .int (σ 55 57), .ref (ad 86), .ref (ad 87), .ref (ad 88), .ref (ad 89)] : List Value).set 15 (.int v))) = jw cI cL ad (jup σ 55 15 v) τ := rfl
theorem jp_55_18 (v : Int32) : (jw cI cL ad σ τ).set 55 (ad 55, .inr (11, ([.ref (ad 56), .ref (ad 57), .ref (ad 58), .ref (ad 59), .int (σ 55 4), .int (σ 55 5), .int (σ 55 6), .ref (ad 60), .ref (ad 61), .int (σ 55 9), .int (σ 55 10), .ref (ad 62), .int (σ 55 12), .int (σ 55 13), .ref (ad 63), .int (σ 55 15), .ref (ad 64), .ref (ad 65), .int (σ 55 18), .int (σ 55 19), .int (σ 55 20), .int (σ 55 21), .int (σ 55 22), .ref (ad 66), .ref (ad 67), .int (σ 55 25), .int (σ 55 26), .int (σ 55 27), .ref (ad 68), .ref (ad 69), .int (σ 55 30), .int (σ 55 31), .int (σ 55 32), .ref (ad 70), .ref (ad 71), .ref (ad 72), .ref (ad 73), .int (σ 55 37), .ref (ad 74), .ref (ad 75), .ref (ad 76), .ref (ad 77), .int (σ 55 42), .ref (ad 78), .ref (ad 79), .int (σ 55 45), .int (σ 55 46), .int (σ 55 47), .ref (ad 80), .ref (ad 81), .int (σ 55 50), .ref (ad 82), .ref (ad 83), .ref (ad 84), .ref (ad 85), .int (σ 55 55), .int (σ 55 56), .int (σ 55 57), .ref (ad 86), .ref (ad 87), .ref (ad 88), .ref (ad 89)] : List Value).set 18 (.int v))) = jw cI cL ad (jup σ 55 18 v) τ := rfl
theorem jp_55_19 (v : Int32) : (jw cI cL ad σ τ).set 55 (ad 55, .inr (11, ([.ref (ad 56), .ref (ad 57), .ref (ad 58), .ref (ad 59), .int (σ 55 4), .int (σ 55 5), .int (σ 55 6), .ref (ad 60), .ref (ad 61), .int (σ 55 9), .int (σ 55 10), .ref (ad 62), .int (σ 55 12), .int (σ 55 13), .ref (ad 63), .int (σ 55 15), .ref (ad 64), .ref (ad 65), .int (σ 55 18), .int (σ 55 19), .int (σ 55 20), .int (σ 55 21), .int (σ 55 22), .ref (ad 66), .ref (ad 67), .int (σ 55 25), .int (σ 55 26), .int (σ 55 27), .ref (ad 68), .ref (ad 69), .int (σ 55 30), .int (σ 55 31), .int (σ 55 32), .ref (ad 70), .ref (ad 71), .ref (ad 72), .ref (ad 73), .int (σ 55 37), .ref (ad 74), .ref (ad 75), .ref (ad 76), .ref (ad 77), .int (σ 55 42), .ref (ad 78), .ref (ad 79), .int (σ 55 45), .int (σ 55 46), .int (σ 55 47), .ref (ad 80), .ref (ad 81), .int (σ 55 50), .ref (ad 82), .ref (ad 83), .ref (ad 84), .ref (ad 85), .int (σ 55 55), .int (σ 55 56), .int (σ 55 57), .ref (ad 86), .ref (ad 87), .ref (ad 88), .ref (ad 89)] : List Value).set 19 (.int v))) = jw cI cL ad (jup σ 55 19 v) τ := rfl
theorem jp_55_20 (v : Int32) : (jw cI cL ad σ τ).set 55 (ad 55, .inr (11, ([.ref (ad 56), .ref (ad 57), .ref (ad 58), .ref (ad 59), .int (σ 55 4), .int (σ 55 5), .int (σ 55 6), .ref (ad 60), .ref (ad 61), .int (σ 55 9), .int (σ 55 10), .ref (ad 62), .int (σ 55 12), .int (σ 55 13), .ref (ad 63), .int (σ 55 15), .ref (ad 64), .ref (ad 65), .int (σ 55 18), .int (σ 55 19), .int (σ 55 20), .int (σ 55 21), .int (σ 55 22), .ref (ad 66), .ref (ad 67), .int (σ 55 25), .int (σ 55 26), .int (σ 55 27), .ref (ad 68), .ref (ad 69), .int (σ 55 30), .int (σ 55 31), .int (σ 55 32), .ref (ad 70), .ref (ad 71), .ref (ad 72), .ref (ad 73), .int (σ 55 37), .ref (ad 74), .ref (ad 75), .ref (ad 76), .ref (ad 77), .int (σ 55 42), .ref (ad 78), .ref (ad 79), .int (σ 55 45), .int (σ 55 46), .int (σ 55 47), .ref (ad 80), .ref (ad 81), .int (σ 55 50), .ref (ad 82), .ref (ad 83), .ref (ad 84), .ref (ad 85), .int (σ 55 55), .int (σ 55 56), .int (σ 55 57), .ref (ad 86), .ref (ad 87), .ref (ad 88), .ref (ad 89)] : List Value).set 20 (.int v))) = jw cI cL ad (jup σ 55 20 v) τ := rfl
theorem jp_55_21 (v : Int32) : (jw cI cL ad σ τ).set 55 (ad 55, .inr (11, ([.ref (ad 56), .ref (ad 57), .ref (ad 58), .ref (ad 59), .int (σ 55 4), .int (σ 55 5), .int (σ 55 6), .ref (ad 60), .ref (ad 61), .int (σ 55 9), .int (σ 55 10), .ref (ad 62), .int (σ 55 12), .int (σ 55 13), .ref (ad 63), .int (σ 55 15), .ref (ad 64), .ref (ad 65), .int (σ 55 18), .int (σ 55 19), .int (σ 55 20), .int (σ 55 21), .int (σ 55 22), .ref (ad 66), .ref (ad 67), .int (σ 55 25), .int (σ 55 26), .int (σ 55 27), .ref (ad 68), .ref (ad 69), .int (σ 55 30), .int (σ 55 31), .int (σ 55 32), .ref (ad 70), .ref (ad 71), .ref (ad 72), .ref (ad 73), .int (σ 55 37), .ref (ad 74), .ref (ad 75), .ref (ad 76), .ref (ad 77), .int (σ 55 42), .ref (ad 78), .ref (ad 79), .int (σ 55 45), .int (σ 55 46), .int (σ 55 47), .ref (ad 80), .ref (ad 81), .int (σ 55 50), .ref (ad 82), .ref (ad 83), .ref (ad 84), .ref (ad 85), .int (σ 55 55), .int (σ 55 56), .int (σ 55 57), .ref (ad 86), .ref (ad 87), .ref (ad 88), .ref (ad 89)] : List Value).set 21 (.int v))) = jw cI cL ad (jup σ 55 21 v) τ := rfl
theorem jp_55_22 (v : Int32) : (jw cI cL ad σ τ).set 55 (ad 55, .inr (11, ([.ref (ad 56), .ref (ad 57), .ref (ad 58), .ref (ad 59), .int (σ 55 4), .int (σ 55 5), .int (σ 55 6), .ref (ad 60), .ref (ad 61), .int (σ 55 9), .int (σ 55 10), .ref (ad 62), .int (σ 55 12), .int (σ 55 13), .ref (ad 63), .int (σ 55 15), .ref (ad 64), .ref (ad 65), .int (σ 55 18), .int (σ 55 19), .int (σ 55 20), .int (σ 55 21), .int (σ 55 22), .ref (ad 66), .ref (ad 67), .int (σ 55 25), .int (σ 55 26), .int (σ 55 27), .ref (ad 68), .ref (ad 69), .int (σ 55 30), .int (σ 55 31), .int (σ 55 32), .ref (ad 70), .ref (ad 71), .ref (ad 72), .ref (ad 73), .int (σ 55 37), .ref (ad 74), .ref (ad 75), .ref (ad 76), .ref (ad 77), .int (σ 55 42), .ref (ad 78), .ref (ad 79), .int (σ 55 45), .int (σ 55 46), .int (σ 55 47), .ref (ad 80), .ref (ad 81), .int (σ 55 50), .ref (ad 82), .ref (ad 83), .ref (ad 84), .ref (ad 85), .int (σ 55 55), .int (σ 55 56), .int (σ 55 57), .ref (ad 86), .ref (ad 87), .ref (ad 88), .ref (ad 89)] : List Value).set 22 (.int v))) = jw cI cL ad (jup σ 55 22 v) τ := rfl
theorem jp_55_25 (v : Int32) : (jw cI cL ad σ τ).set 55 (ad 55, .inr (11, ([.ref (ad 56), .ref (ad 57), .ref (ad 58), .ref (ad 59), .int (σ 55 4), .int (σ 55 5), .int (σ 55 6), .ref (ad 60), .ref (ad 61), .int (σ 55 9), .int (σ 55 10), .ref (ad 62), .int (σ 55 12), .int (σ 55 13), .ref (ad 63), .int (σ 55 15), .ref (ad 64), .ref (ad 65), .int (σ 55 18), .int (σ 55 19), .int (σ 55 20), .int (σ 55 21), .int (σ 55 22), .ref (ad 66), .ref (ad 67), .int (σ 55 25), .int (σ 55 26), .int (σ 55 27), .ref (ad 68), .ref (ad 69), .int (σ 55 30), .int (σ 55 31), .int (σ 55 32), .ref (ad 70), .ref (ad 71), .ref (ad 72), .ref (ad 73), .int (σ 55 37), .ref (ad 74), .ref (ad 75), .ref (ad 76), .ref (ad 77), .int (σ 55 42), .ref (ad 78), .ref (ad 79), .int (σ 55 45), .int (σ 55 46), .int (σ 55 47), .ref (ad 80), .ref (ad 81), .int (σ 55 50), .ref (ad 82), .ref (ad 83), .ref (ad 84), .ref (ad 85), .int (σ 55 55), .int (σ 55 56), .int (σ 55 57), .ref (ad 86), .ref (ad 87), .ref (ad 88), .ref (ad 89)] : List Value).set 25 (.int v))) = jw cI cL ad (jup σ 55 25 v) τ := rfl
theorem jp_55_26 (v : Int32) : (jw cI cL ad σ τ).set 55 (ad 55, .inr (11, ([.ref (ad 56), .ref (ad 57), .ref (ad 58), .ref (ad 59), .int (σ 55 4), .int (σ 55 5), .int (σ 55 6), .ref (ad 60), .ref (ad 61), .int (σ 55 9), .int (σ 55 10), .ref (ad 62), .int (σ 55 12), .int (σ 55 13), .ref (ad 63), .int (σ 55 15), .ref (ad 64), .ref (ad 65), .int (σ 55 18), .int (σ 55 19), .int (σ 55 20), .int (σ 55 21), .int (σ 55 22), .ref (ad 66), .ref (ad 67), .int (σ 55 25), .int (σ 55 26), .int (σ 55 27), .ref (ad 68), .ref (ad 69), .int (σ 55 30), .int (σ 55 31), .int (σ 55 32), .ref (ad 70), .ref (ad 71), .ref (ad 72), .ref (ad 73), .int (σ 55 37), .ref (ad 74), .ref (ad 75), .ref (ad 76), .ref (ad 77), .int (σ 55 42), .ref (ad 78), .ref (ad 79), .int (σ 55 45), .int (σ 55 46), .int (σ 55 47), .ref (ad 80), .ref (ad 81), .int (σ 55 50), .ref (ad 82), .ref (ad 83), .ref (ad 84), .ref (ad 85), .int (σ 55 55), .int (σ 55 56), .int (σ 55 57), .ref (ad 86), .ref (ad 87), .ref (ad 88), .ref (ad 89)] : List Value).set 26 (.int v))) = jw cI cL ad (jup σ 55 26 v) τ := rfl
theorem jp_55_27 (v : Int32) : (jw cI cL ad σ τ).set 55 (ad 55, .inr (11, ([.ref (ad 56), .ref (ad 57), .ref (ad 58), .ref (ad 59), .int (σ 55 4), .int (σ 55 5), .int (σ 55 6), .ref (ad 60), .ref (ad 61), .int (σ 55 9), .int (σ 55 10), .ref (ad 62), .int (σ 55 12), .int (σ 55 13), .ref (ad 63), .int (σ 55 15), .ref (ad 64), .ref (ad 65), .int (σ 55 18), .int (σ 55 19), .int (σ 55 20), .int (σ 55 21), .int (σ 55 22), .ref (ad 66), .ref (ad 67), .int (σ 55 25), .int (σ 55 26), .int (σ 55 27), .ref (ad 68), .ref (ad 69), .int (σ 55 30), .int (σ 55 31), .int (σ 55 32), .ref (ad 70), .ref (ad 71), .ref (ad 72), .ref (ad 73), .int (σ 55 37), .ref (ad 74), .ref (ad 75), .ref (ad 76), .ref (ad 77), .int (σ 55 42), .ref (ad 78), .ref (ad 79), .int (σ 55 45), .int (σ 55 46), .int (σ 55 47), .ref (ad 80), .ref (ad 81), .int (σ 55 50), .ref (ad 82), .ref (ad 83), .ref (ad 84), .ref (ad 85), .int (σ 55 55), .int (σ 55 56), .int (σ 55 57), .ref (ad 86), .ref (ad 87), .ref (ad 88), .ref (ad 89)] : List Value).set 27 (.int v))) = jw cI cL ad (jup σ 55 27 v) τ := rfl
theorem jp_55_30 (v : Int32) : (jw cI cL ad σ τ).set 55 (ad 55, .inr (11, ([.ref (ad 56), .ref (ad 57), .ref (ad 58), .ref (ad 59), .int (σ 55 4), .int (σ 55 5), .int (σ 55 6), .ref (ad 60), .ref (ad 61), .int (σ 55 9), .int (σ 55 10), .ref (ad 62), .int (σ 55 12), .int (σ 55 13), .ref (ad 63), .int (σ 55 15), .ref (ad 64), .ref (ad 65), .int (σ 55 18), .int (σ 55 19), .int (σ 55 20), .int (σ 55 21), .int (σ 55 22), .ref (ad 66), .ref (ad 67), .int (σ 55 25), .int (σ 55 26), .int (σ 55 27), .ref (ad 68), .ref (ad 69), .int (σ 55 30), .int (σ 55 31), .int (σ 55 32), .ref (ad 70), .ref (ad 71), .ref (ad 72), .ref (ad 73), .int (σ 55 37), .ref (ad 74), .ref (ad 75), .ref (ad 76), .ref (ad 77), .int (σ 55 42), .ref (ad 78), .ref (ad 79), .int (σ 55 45), .int (σ 55 46), .int (σ 55 47), .ref (ad 80), .ref (ad 81), .int (σ 55 50), .ref (ad 82), .ref (ad 83), .ref (ad 84), .ref (ad 85), .int (σ 55 55), .int (σ 55 56), .int (σ 55 57), .ref (ad 86), .ref (ad 87), .ref (ad 88), .ref (ad 89)] : List Value).set 30 (.int v))) = jw cI cL ad (jup σ 55 30 v) τ := rfl
theorem jp_55_31 (v : Int32) : (jw cI cL ad σ τ).set 55 (ad 55, .inr (11, ([.ref (ad 56), .ref (ad 57), .ref (ad 58), .ref (ad 59), .int (σ 55 4), .int (σ 55 5), .int (σ 55 6), .ref (ad 60), .ref (ad 61), .int (σ 55 9), .int (σ 55 10), .ref (ad 62), .int (σ 55 12), .int (σ 55 13), .ref (ad 63), .int (σ 55 15), .ref (ad 64), .ref (ad 65), .int (σ 55 18), .int (σ 55 19), .int (σ 55 20), .int (σ 55 21), .int (σ 55 22), .ref (ad 66), .ref (ad 67), .int (σ 55 25), .int (σ 55 26), .int (σ 55 27), .ref (ad 68), .ref (ad 69), .int (σ 55 30), .int (σ 55 31), .int (σ 55 32), .ref (ad 70), .ref (ad 71), .ref (ad 72), .ref (ad 73), .int (σ 55 37), .ref (ad 74), .ref (ad 75), .ref (ad 76), .ref (ad 77), .int (σ 55 42), .ref (ad 78), .ref (ad 79), .int (σ 55 45), .int (σ 55 46), .int (σ 55 47), .ref (ad 80), .ref (ad 81), .int (σ 55 50), .ref (ad 82), .ref (ad 83), .ref (ad 84), .ref (ad 85), .int (σ 55 55), .int (σ 55 56), .int (σ 55 57), .ref (ad 86), .ref (ad 87), .ref (ad 88), .ref (ad 89)] : List Value).set 31 (.int v))) = jw cI cL ad (jup σ 55 31 v) τ := rfl
theorem jp_55_32 (v : Int32) : (jw cI cL ad σ τ).set 55 (ad 55, .inr (11, ([.ref (ad 56), .ref (ad 57), .ref (ad 58), .ref (ad 59), .int (σ 55 4), .int (σ 55 5), .int (σ 55 6), .ref (ad 60), .ref (ad 61), .int (σ 55 9), .int (σ 55 10), .ref (ad 62), .int (σ 55 12), .int (σ 55 13), .ref (ad 63), .int (σ 55 15), .ref (ad 64), .ref (ad 65), .int (σ 55 18), .int (σ 55 19), .int (σ 55 20), .int (σ 55 21), .int (σ 55 22), .ref (ad 66), .ref (ad 67), .int (σ 55 25), .int (σ 55 26), .int (σ 55 27), .ref (ad 68), .ref (ad 69), .int (σ 55 30), .int (σ 55 31), .int (σ 55 32), .ref (ad 70), .ref (ad 71), .ref (ad 72), .ref (ad 73), .int (σ 55 37), .ref (ad 74), .ref (ad 75), .ref (ad 76), .ref (ad 77), .int (σ 55 42), .ref (ad 78), .ref (ad 79), .int (σ 55 45), .int (σ 55 46), .int (σ 55 47), .ref (ad 80), .ref (ad 81), .int (σ 55 50), .ref (ad 82), .ref (ad 83), .ref (ad 84), .ref (ad 85), .int (σ 55 55), .int (σ 55 56), .int (σ 55 57), .ref (ad 86), .ref (ad 87), .ref (ad 88), .ref (ad 89)] : List Value).set 32 (.int v))) = jw cI cL ad (jup σ 55 32 v) τ := rfl
theorem jp_55_37 (v : Int32) : (jw cI cL ad σ τ).set 55 (ad 55, .inr (11, ([.ref (ad 56), .ref (ad 57), .ref (ad 58), .ref (ad 59), .int (σ 55 4), .int (σ 55 5), .int (σ 55 6), .ref (ad 60), .ref (ad 61), .int (σ 55 9), .int (σ 55 10), .ref (ad 62), .int (σ 55 12), .int (σ 55 13), .ref (ad 63), .int (σ 55 15), .ref (ad 64), .ref (ad 65), .int (σ 55 18), .int (σ 55 19), .int (σ 55 20), .int (σ 55 21), .int (σ 55 22), .ref (ad 66), .ref (ad 67), .int (σ 55 25), .int (σ 55 26), .int (σ 55 27), .ref (ad 68), .ref (ad 69), .int (σ 55 30), .int (σ 55 31), .int (σ 55 32), .ref (ad 70), .ref (ad 71), .ref (ad 72), .ref (ad 73), .int (σ 55 37), .ref (ad 74), .ref (ad 75), .ref (ad 76), .ref (ad 77), .int (σ 55 42), .ref (ad 78), .ref (ad 79), .int (σ 55 45), .int (σ 55 46), .int (σ 55 47), .ref (ad 80), .ref (ad 81), .int (σ 55 50), .ref (ad 82), .ref (ad 83), .ref (ad 84), .ref (ad 85), .int (σ 55 55), .int (σ 55 56), .int (σ 55 57), .ref (ad 86), .ref (ad 87), .ref (ad 88), .ref (ad 89)] : List Value).set 37 (.int v))) = jw cI cL ad (jup σ 55 37 v) τ := rfl
theorem jp_55_42 (v : Int32) : (jw cI cL ad σ τ).set 55 (ad 55, .inr (11, ([.ref (ad 56), .ref (ad 57), .ref (ad 58), .ref (ad 59), .int (σ 55 4), .int (σ 55 5), .int (σ 55 6), .ref (ad 60), .ref (ad 61), .int (σ 55 9), .int (σ 55 10), .ref (ad 62), .int (σ 55 12), .int (σ 55 13), .ref (ad 63), .int (σ 55 15), .ref (ad 64), .ref (ad 65), .int (σ 55 18), .int (σ 55 19), .int (σ 55 20), .int (σ 55 21), .int (σ 55 22), .ref (ad 66), .ref (ad 67), .int (σ 55 25), .int (σ 55 26), .int (σ 55 27), .ref (ad 68), .ref (ad 69), .int (σ 55 30), .int (σ 55 31), .int (σ 55 32), .ref (ad 70), .ref (ad 71), .ref (ad 72), .ref (ad 73), .int (σ 55 37), .ref (ad 74), .ref (ad 75), .ref (ad 76), .ref (ad 77), .int (σ 55 42), .ref (ad 78), .ref (ad 79), .int (σ 55 45), .int (σ 55 46), .int (σ 55 47), .ref (ad 80), .ref (ad 81), .int (σ 55 50), .ref (ad 82), .ref (ad 83), .ref (ad 84), .ref (ad 85), .int (σ 55 55), .int (σ 55 56), .int (σ 55 57), .ref (ad 86), .ref (ad 87), .ref (ad 88), .ref (ad 89)] : List Value).set 42 (.int v))) = jw cI cL ad (jup σ 55 42 v) τ := rfl
theorem jp_55_45 (v : Int32) : (jw cI cL ad σ τ).set 55 (ad 55, .inr (11, ([.ref (ad 56), .ref (ad 57), .ref (ad 58), .ref (ad 59), .int (σ 55 4), .int (σ 55 5), .int (σ 55 6), .ref (ad 60), .ref (ad 61), .int (σ 55 9), .int (σ 55 10), .ref (ad 62), .int (σ 55 12), .int (σ 55 13), .ref (ad 63), .int (σ 55 15), .ref (ad 64), .ref (ad 65), .int (σ 55 18), .int (σ 55 19), .int (σ 55 20), .int (σ 55 21), .int (σ 55 22), .ref (ad 66), .ref (ad 67), .int (σ 55 25), .int (σ 55 26), .int (σ 55 27), .ref (ad 68), .ref (ad 69), .int (σ 55 30), .int (σ 55 31), .int (σ 55 32), .ref (ad 70), .ref (ad 71), .ref (ad 72), .ref (ad 73), .int (σ 55 37), .ref (ad 74), .ref (ad 75), .ref (ad 76), .ref (ad 77), .int (σ 55 42), .ref (ad 78), .ref (ad 79), .int (σ 55 45), .int (σ 55 46), .int (σ 55 47), .ref (ad 80), .ref (ad 81), .int (σ 55 50), .ref (ad 82), .ref (ad 83), .ref (ad 84), .ref (ad 85), .int (σ 55 55), .int (σ 55 56), .int (σ 55 57), .ref (ad 86), .ref (ad 87), .ref (ad 88), .ref (ad 89)] : List Value).set 45 (.int v))) = jw cI cL ad (jup σ 55 45 v) τ := rfl
theorem jp_55_46 (v : Int32) : (jw cI cL ad σ τ).set 55 (ad 55, .inr (11, ([.ref (ad 56), .ref (ad 57), .ref (ad 58), .ref (ad 59), .int (σ 55 4), .int (σ 55 5), .int (σ 55 6), .ref (ad 60), .ref (ad 61), .int (σ 55 9), .int (σ 55 10), .ref (ad 62), .int (σ 55 12), .int (σ 55 13), .ref (ad 63), .int (σ 55 15), .ref (ad 64), .ref (ad 65), .int (σ 55 18), .int (σ 55 19), .int (σ 55 20), .int (σ 55 21), .int (σ 55 22), .ref (ad 66), .ref (ad 67), .int (σ 55 25), .int (σ 55 26), .int (σ 55 27), .ref (ad 68), .ref (ad 69), .int (σ 55 30), .int (σ 55 31), .int (σ 55 32), .ref (ad 70), .ref (ad 71), .ref (ad 72), .ref (ad 73), .int (σ 55 37), .ref (ad 74), .ref (ad 75), .ref (ad 76), .ref (ad 77), .int (σ 55 42), .ref (ad 78), .ref (ad 79), .int (σ 55 45), .int (σ 55 46), .int (σ 55 47), .ref (ad 80), .ref (ad 81), .int (σ 55 50), .ref (ad 82), .ref (ad 83), .ref (ad 84), .ref (ad 85), .int (σ 55 55), .int (σ 55 56), .int (σ 55 57), .ref (ad 86), .ref (ad 87), .ref (ad 88), .ref (ad 89)] : List Value).set 46 (.int v))) = jw cI cL ad (jup σ 55 46 v) τ := rfl
theorem jp_55_47 (v : Int32) : (jw cI cL ad σ τ).set 55 (ad 55, .inr (11, ([.ref (ad 56), .ref (ad 57), .ref (ad 58), .ref (ad 59), .int (σ 55 4), .int (σ 55 5), .int (σ 55 6), .ref (ad 60), .ref (ad 61), .int (σ 55 9), .int (σ 55 10), .ref (ad 62), .int (σ 55 12), .int (σ 55 13), .ref (ad 63), .int (σ 55 15), .ref (ad 64), .ref (ad 65), .int (σ 55 18), .int (σ 55 19), .int (σ 55 20), .int (σ 55 21), .int (σ 55 22), .ref (ad 66), .ref (ad 67), .int (σ 55 25), .int (σ 55 26), .int (σ 55 27), .ref (ad 68), .ref (ad 69), .int (σ 55 30), .int (σ 55 31), .int (σ 55 32), .ref (ad 70), .ref (ad 71), .ref (ad 72), .ref (ad 73), .int (σ 55 37), .ref (ad 74), .ref (ad 75), .ref (ad 76), .ref (ad 77), .int (σ 55 42), .ref (ad 78), .ref (ad 79), .int (σ 55 45), .int (σ 55 46), .int (σ 55 47), .ref (ad 80), .ref (ad 81), .int (σ 55 50), .ref (ad 82), .ref (ad 83), .ref (ad 84), .ref (ad 85), .int (σ 55 55), .int (σ 55 56), .int (σ 55 57), .ref (ad 86), .ref (ad 87), .ref (ad 88), .ref (ad 89)] : List Value).set 47 (.int v))) = jw cI cL ad (jup σ 55 47 v) τ := rfl
theorem jp_55_50 (v : Int32) : (jw cI cL ad σ τ).set 55 (ad 55, .inr (11, ([.ref (ad 56), .ref (ad 57), .ref (ad 58), .ref (ad 59), .int (σ 55 4), .int (σ 55 5), .int (σ 55 6), .ref (ad 60), .ref (ad 61), .int (σ 55 9), .int (σ 55 10), .ref (ad 62), .int (σ 55 12), .int (σ 55 13), .ref (ad 63), .int (σ 55 15), .ref (ad 64), .ref (ad 65), .int (σ 55 18), .int (σ 55 19), .int (σ 55 20), .int (σ 55 21), .int (σ 55 22), .ref (ad 66), .ref (ad 67), .int (σ 55 25), .int (σ 55 26), .int (σ 55 27), .ref (ad 68), .ref (ad 69), .int (σ 55 30), .int (σ 55 31), .int (σ 55 32), .ref (ad 70), .ref (ad 71), .ref (ad 72), .ref (ad 73), .int (σ 55 37), .ref (ad 74), .ref (ad 75), .ref (ad 76), .ref (ad 77), .int (σ 55 42), .ref (ad 78), .ref (ad 79), .int (σ 55 45), .int (σ 55 46), .int (σ 55 47), .ref (ad 80), .ref (ad 81), .int (σ 55 50), .ref (ad 82), .ref (ad 83), .ref (ad 84), .ref (ad 85), .int (σ 55 55), .int (σ 55 56), .int (σ 55 57), .ref (ad 86), .ref (ad 87), .ref (ad 88), .ref (ad 89)] : List Value).set 50 (.int v))) = jw cI cL ad (jup σ 55 50 v) τ := rfl
theorem jp_55_55 (v : Int32) : (jw cI cL ad σ τ).set 55 (ad 55, .inr (11, ([.ref (ad 56), .ref (ad 57), .ref (ad 58), .ref (ad 59), .int (σ 55 4), .int (σ 55 5), .int (σ 55 6), .ref (ad 60), .ref (ad 61), .int (σ 55 9), .int (σ 55 10), .ref (ad 62), .int (σ 55 12), .int (σ 55 13), .ref (ad 63), .int (σ 55 15), .ref (ad 64), .ref (ad 65), .int (σ 55 18), .int (σ 55 19), .int (σ 55 20), .int (σ 55 21), .int (σ 55 22), .ref (ad 66), .ref (ad 67), .int (σ 55 25), .int (σ 55 26), .int (σ 55 27), .ref (ad 68), .ref (ad 69), .int (σ 55 30), .int (σ 55 31), .int (σ 55 32), .ref (ad 70), .ref (ad 71), .ref (ad 72), .ref (ad 73), .int (σ 55 37), .ref (ad 74), .ref (ad 75), .ref (ad 76), .ref (ad 77), .int (σ 55 42), .ref (ad 78), .ref (ad 79), .int (σ 55 45), .int (σ 55 46), .int (σ 55 47), .ref (ad 80), .ref (ad 81), .int (σ 55 50), .ref (ad 82), .ref (ad 83), .ref (ad 84), .ref (ad 85), .int (σ 55 55), .int (σ 55 56), .int (σ 55 57), .ref (ad 86), .ref (ad 87), .ref (ad 88), .ref (ad 89)] : List Value).set 55 (.int v))) = jw cI cL ad (jup σ 55 55 v) τ := rfl
theorem jp_55_56 (v : Int32) : (jw cI cL ad σ τ).set 55 (ad 55, .inr (11, ([.ref (ad 56), .ref (ad 57), .ref (ad 58), .ref (ad 59), .int (σ 55 4), .int (σ 55 5), .int (σ 55 6), .ref (ad 60), .ref (ad 61), .int (σ 55 9), .int (σ 55 10), .ref (ad 62), .int (σ 55 12), .int (σ 55 13), .ref (ad 63), .int (σ 55 15), .ref (ad 64), .ref (ad 65), .int (σ 55 18), .int (σ 55 19), .int (σ 55 20), .int (σ 55 21), .int (σ 55 22), .ref (ad 66), .ref (ad 67), .int (σ 55 25), .int (σ 55 26), .int (σ 55 27), .ref (ad 68), .ref (ad 69), .int (σ 55 30), .int (σ 55 31), .int (σ 55 32), .ref (ad 70), .ref (ad 71), .ref (ad 72), .ref (ad 73), .int (σ 55 37), .ref (ad 74), .ref (ad 75), .ref (ad 76), .ref (ad 77), .int (σ 55 42), .ref (ad 78), .ref (ad 79), .int (σ 55 45), .int (σ 55 46), .int (σ 55 47), .ref (ad 80), .ref (ad 81), .int (σ 55 50), .ref (ad 82), .ref (ad 83), .ref (ad 84), .ref (ad 85), .int (σ 55 55), .int (σ 55 56), .int (σ 55 57), .ref (ad 86), .ref (ad 87), .ref (ad 88), .ref (ad 89)] : List Value).set 56 (.int v))) = jw cI cL ad (jup σ 55 56 v) τ := rfl
theorem jp_55_57 (v : Int32) : (jw cI cL ad σ τ).set 55 (ad 55, .inr (11, ([.ref (ad 56), .ref (ad 57), .ref (ad 58), .ref (ad 59), .int (σ 55 4), .int (σ 55 5), .int (σ 55 6), .ref (ad 60), .ref (ad 61), .int (σ 55 9), .int (σ 55 10), .ref (ad 62), .int (σ 55 12), .int (σ 55 13), .ref (ad 63), .int (σ 55 15), .ref (ad 64), .ref (ad 65), .int (σ 55 18), .int (σ 55 19), .int (σ 55 20), .int (σ 55 21), .int (σ 55 22), .ref (ad 66), .ref (ad 67), .int (σ 55 25), .int (σ 55 26), .int (σ 55 27), .ref (ad 68), .ref (ad 69), .int (σ 55 30), .int (σ 55 31), .int (σ 55 32), .ref (ad 70), .ref (ad 71), .ref (ad 72), .ref (ad 73), .int (σ 55 37), .ref (ad 74), .ref (ad 75), .ref (ad 76), .ref (ad 77), .int (σ 55 42), .ref (ad 78), .ref (ad 79), .int (σ 55 45), .int (σ 55 46), .int (σ 55 47), .ref (ad 80), .ref (ad 81), .int (σ 55 50), .ref (ad 82), .ref (ad 83), .ref (ad 84), .ref (ad 85), .int (σ 55 55), .int (σ 55 56), .int (σ 55 57), .ref (ad 86), .ref (ad 87), .ref (ad 88), .ref (ad 89)] : List Value).set 57 (.int v))) = jw cI cL ad (jup σ 55 57 v) τ := rfl
theorem ja_56 (k : Nat) (v : Int32) : (jw cI cL ad σ τ).set 56 (ad 56, .inl (cI, 68, .inl (upd (σ 56) k v))) = jw cI cL ad (jup σ 56 k v) τ := rfl
theorem ja_57 (k : Nat) (v : Int32) : (jw cI cL ad σ τ).set 57 (ad 57, .inl (cI, 40, .inl (upd (σ 57) k v))) = jw cI cL ad (jup σ 57 k v) τ := rfl
theorem ja_58 (k : Nat) (v : Int32) : (jw cI cL ad σ τ).set 58 (ad 58, .inl (cI, 40, .inl (upd (σ 58) k v))) = jw cI cL ad (jup σ 58 k v) τ := rfl
theorem ja_59 (k : Nat) (v : Int32) : (jw cI cL ad σ τ).set 59 (ad 59, .inl (cI, 40, .inl (upd (σ 59) k v))) = jw cI cL ad (jup σ 59 k v) τ := rfl
theorem ja_60 (k : Nat) (v : Int32) : (jw cI cL ad σ τ).set 60 (ad 60, .inl (cI, 4, .inl (upd (σ 60) k v))) = jw cI cL ad (jup σ 60 k v) τ := rfl
theorem ja_61 (k : Nat) (v : Int32) : (jw cI cL ad σ τ).set 61 (ad 61, .inl (cI, 4, .inl (upd (σ 61) k v))) = jw cI cL ad (jup σ 61 k v) τ := rfl
theorem ja_62 (k : Nat) (v : Int32) : (jw cI cL ad σ τ).set 62 (ad 62, .inl (cI, 8, .inl (upd (σ 62) k v))) = jw cI cL ad (jup σ 62 k v) τ := rfl
theorem ja_63 (k : Nat) (v : Int32) : (jw cI cL ad σ τ).set 63 (ad 63, .inl (cI, 80, .inl (upd (σ 63) k v))) = jw cI cL ad (jup σ 63 k v) τ := rfl
theorem ja_64 (k : Nat) (v : Int32) : (jw cI cL ad σ τ).set 64 (ad 64, .inl (cI, 160, .inl (upd (σ 64) k v))) = jw cI cL ad (jup σ 64 k v) τ := rfl
theorem ja_65 (k : Nat) (v : Int32) : (jw cI cL ad σ τ).set 65 (ad 65, .inl (cI, 2, .inl (upd (σ 65) k v))) = jw cI cL ad (jup σ 65 k v) τ := rfl
theorem ja_66 (k : Nat) (v : Int32) : (jw cI cL ad σ τ).set 66 (ad 66, .inl (cI, 8, .inl (upd (σ 66) k v))) = jw cI cL ad (jup σ 66 k v) τ := rfl
theorem ja_67 (k : Nat) (v : Int32) : (jw cI cL ad σ τ).set 67 (ad 67, .inl (cI, 8, .inl (upd (σ 67) k v))) = jw cI cL ad (jup σ 67 k v) τ := rfl
theorem ja_68 (k : Nat) (v : Int32) : (jw cI cL ad σ τ).set 68 (ad 68, .inl (cI, 4, .inl (upd (σ 68) k v))) = jw cI cL ad (jup σ 68 k v) τ := rfl
theorem ja_69 (k : Nat) (v : Int32) : (jw cI cL ad σ τ).set 69 (ad 69, .inl (cI, 4, .inl (upd (σ 69) k v))) = jw cI cL ad (jup σ 69 k v) τ := rfl
theorem ja_70 (k : Nat) (v : Int32) : (jw cI cL ad σ τ).set 70 (ad 70, .inl (cI, 20, .inl (upd (σ 70) k v))) = jw cI cL ad (jup σ 70 k v) τ := rfl
theorem ja_71 (k : Nat) (v : Int32) : (jw cI cL ad σ τ).set 71 (ad 71, .inl (cI, 20, .inl (upd (σ 71) k v))) = jw cI cL ad (jup σ 71 k v) τ := rfl
theorem ja_72 (k : Nat) (v : Int32) : (jw cI cL ad σ τ).set 72 (ad 72, .inl (cI, 160, .inl (upd (σ 72) k v))) = jw cI cL ad (jup σ 72 k v) τ := rfl
theorem ja_73 (k : Nat) (v : Int32) : (jw cI cL ad σ τ).set 73 (ad 73, .inl (cI, 20, .inl (upd (σ 73) k v))) = jw cI cL ad (jup σ 73 k v) τ := rfl
theorem ja_74 (k : Nat) (v : Int32) : (jw cI cL ad σ τ).set 74 (ad 74, .inl (cI, 65536, .inl (upd (σ 74) k v))) = jw cI cL ad (jup σ 74 k v) τ := rfl
theorem ja_75 (k : Nat) (v : Int32) : (jw cI cL ad σ τ).set 75 (ad 75, .inl (cI, 65536, .inl (upd (σ 75) k v))) = jw cI cL ad (jup σ 75 k v) τ := rfl
theorem ja_76 (k : Nat) (v : Int32) : (jw cI cL ad σ τ).set 76 (ad 76, .inl (cI, 65536, .inl (upd (σ 76) k v))) = jw cI cL ad (jup σ 76 k v) τ := rfl
theorem ja_77 (k : Nat) (v : Int32) : (jw cI cL ad σ τ).set 77 (ad 77, .inl (cI, 65536, .inl (upd (σ 77) k v))) = jw cI cL ad (jup σ 77 k v) τ := rfl
theorem ja_78 (k : Nat) (v : Int32) : (jw cI cL ad σ τ).set 78 (ad 78, .inl (cI, 65536, .inl (upd (σ 78) k v))) = jw cI cL ad (jup σ 78 k v) τ := rfl
theorem ja_79 (k : Nat) (v : Int32) : (jw cI cL ad σ τ).set 79 (ad 79, .inl (cI, 5, .inl (upd (σ 79) k v))) = jw cI cL ad (jup σ 79 k v) τ := rfl
theorem ja_80 (k : Nat) (v : Int32) : (jw cI cL ad σ τ).set 80 (ad 80, .inl (cI, 12, .inl (upd (σ 80) k v))) = jw cI cL ad (jup σ 80 k v) τ := rfl
theorem ja_81 (k : Nat) (v : Int32) : (jw cI cL ad σ τ).set 81 (ad 81, .inl (cI, 12, .inl (upd (σ 81) k v))) = jw cI cL ad (jup σ 81 k v) τ := rfl
theorem ja_82 (k : Nat) (v : Int32) : (jw cI cL ad σ τ).set 82 (ad 82, .inl (cI, 12, .inl (upd (σ 82) k v))) = jw cI cL ad (jup σ 82 k v) τ := rfl
theorem ja_83 (k : Nat) (v : Int32) : (jw cI cL ad σ τ).set 83 (ad 83, .inl (cI, 12, .inl (upd (σ 83) k v))) = jw cI cL ad (jup σ 83 k v) τ := rfl
theorem ja_84 (k : Nat) (v : Int32) : (jw cI cL ad σ τ).set 84 (ad 84, .inl (cI, 12, .inl (upd (σ 84) k v))) = jw cI cL ad (jup σ 84 k v) τ := rfl
theorem ja_85 (k : Nat) (v : Int32) : (jw cI cL ad σ τ).set 85 (ad 85, .inl (cI, 24, .inl (upd (σ 85) k v))) = jw cI cL ad (jup σ 85 k v) τ := rfl
theorem ja_86 (k : Nat) (v : Int32) : (jw cI cL ad σ τ).set 86 (ad 86, .inl (cI, 6, .inl (upd (σ 86) k v))) = jw cI cL ad (jup σ 86 k v) τ := rfl
theorem ja_87 (k : Nat) (v : Int32) : (jw cI cL ad σ τ).set 87 (ad 87, .inl (cI, 6, .inl (upd (σ 87) k v))) = jw cI cL ad (jup σ 87 k v) τ := rfl
theorem ja_88 (k : Nat) (v : Int64) : (jw cI cL ad σ τ).set 88 (ad 88, .inl (cL, 360, .inr (.inl (vp_updL (τ 88) k v)))) = jw cI cL ad σ (jupL τ 88 k v) := rfl
theorem ja_89 (k : Nat) (v : Int64) : (jw cI cL ad σ τ).set 89 (ad 89, .inl (cL, 60, .inr (.inl (vp_updL (τ 89) k v)))) = jw cI cL ad σ (jupL τ 89 k v) := rfl
end CELLS
abbrev jS : Type := (Nat → Nat → Int32) × (Nat → Nat → Int64)
/-- the addresses are apart -/
def jD (ad : Nat → Nat) : Prop := ∀ i j, i < jn → j < jn → ad i = ad j → i = j
def jA (ad : Nat → Nat) : Nat → Prop := fun q => ∃ i, i < jn ∧ q = ad i
abbrev jtys (cI cL : ClassId) : List (ClassId × FieldType) := [(cI, .int), (cL, .long)]
abbrev jK (D : va_G) (cI cL : ClassId) (U : State) : Prop := va_K D vwCl (jtys cI cL) U
abbrev jH (D : va_G) (cI cL : ClassId) (ad : Nat → Nat) (σ : Nat → Nat → Int32) (τ : Nat → Nat → Int64) (H : Heap) : Prop := va_P D vwCl (jw cI cL ad σ τ) H
theorem jw_map (cI cL : ClassId) (ad : Nat → Nat) (σ : Nat → Nat → Int32) (τ : Nat → Nat → Int64) : (jw cI cL ad σ τ).map Prod.fst = (List.range jn).map ad := rfl
theorem jw_at {cI cL : ClassId} {ad : Nat → Nat} {σ : Nat → Nat → Int32} {τ : Nat → Nat → Int64} {k : Nat} {q : Nat × va_E} (h : (jw cI cL ad σ τ)[k]? = some q) : k < jn ∧ q.1 = ad k := by
  have h1 : ((jw cI cL ad σ τ).map Prod.fst)[k]? = some q.1 := by rw [List.getElem?_map, h]; rfl
  rw [jw_map, List.getElem?_map] at h1
  have hk : k < jn := by
    have := (List.getElem?_eq_some_iff.mp h).1
    have hl : (jw cI cL ad σ τ).length = jn := rfl
    omega
  rw [List.getElem?_range hk] at h1
  exact ⟨hk, (Option.some.inj h1).symm⟩
theorem jD.D {ad : Nat → Nat} (hJ : jD ad) {A : Nat → Prop} (hA : ∀ q, jA ad q → A q) (cI cL : ClassId) (σ : Nat → Nat → Int32) (τ : Nat → Nat → Int64) : va_D A (jw cI cL ad σ τ) := by
  refine ⟨fun i j p q hi hj h => ?_, fun k q hk => ?_⟩
  · obtain ⟨h1, h2⟩ := jw_at hi
    obtain ⟨h3, h4⟩ := jw_at hj
    exact hJ i j h1 h3 (by rw [← h2, ← h4]; exact h)
  · obtain ⟨h1, h2⟩ := jw_at hk
    exact hA _ ⟨k, h1, h2⟩
theorem jall : wsL_law.all goodWord = true := by decide +kernel
theorem jgood {y : MethodName} {c : ByteArray} {n : Nat} {r : Option FieldType} {y2 : MethodName} {c2 : ByteArray} {n2 : Nat} {r2 : Option FieldType} (h : Cond.code y c n r ∈ wsL_law) : GoodIn (Cond.code y2 c2 n2 r2 :: wsL_law) (Cond.code y c n r :: wsL_law) := by
  intro w hw
  have hm : w ∈ wsL_law := by
    rcases List.mem_cons.mp hw with q | q
    · rw [q]; exact h
    · exact q
  exact ⟨List.mem_cons_of_mem _ hm, good_of_word (List.all_eq_true.mp jall w hm)⟩
theorem jgoodL {y : MethodName} {c : ByteArray} {n : Nat} {r : Option FieldType} (h : Cond.code y c n r ∈ wsL_law) : GoodIn wsL_law (Cond.code y c n r :: wsL_law) := by
  intro w hw
  have hm : w ∈ wsL_law := by
    rcases List.mem_cons.mp hw with q | q
    · rw [q]; exact h
    · exact q
  exact ⟨hm, good_of_word (List.all_eq_true.mp jall w hm)⟩
/-- the class's static rows: their addresses are zz 0, zz 1, zz 2; they lie outside the world -/
def jbN : Nat → Value := fun k => .int ([240, 15, 3072, 12288, 768, 507904].getD k 0)
def jbA : Nat → Value := fun k => .int ([-1, 0, 0, 2, 1, 3, 0].getD k 0)
def jbB : Nat → Value := fun k => .int ([1, 10, 11, 2, 20, 0, 0, 0, 0, 0, 30, 0, 0, 40, 0, 0, 50, 0, 0, 51, 0, 0, 60, 0, 0, 70, 0, 0].getD k 0)
def jZ (zz : Nat → Nat) (A : Nat → Prop) (U : State) (H : Heap) : Prop :=
  (va_Z "ChangeBowler$Odds" "NAME_BITS" "[I" (.ref (zz 0)) A U H ∧ va_T .int (zz 0) 6 jbN A U H) ∧
  (va_Z "ChangeBowler$Rules" "ABOVE" "[I" (.ref (zz 1)) A U H ∧ va_T .int (zz 1) 7 jbA A U H) ∧
  (va_Z "ChangeBowler$Rules" "BODIES" "[I" (.ref (zz 2)) A U H ∧ va_T .int (zz 2) 28 jbB A U H)
theorem jZ.moved {zz : Nat → Nat} {A : Nat → Prop} {u U : State} {H : Heap} (hvm : u.vm.Alike U.vm) (h : jZ zz A u H) : jZ zz A U H :=
  ⟨⟨h.1.1.moved hvm, h.1.2.moved hvm⟩, ⟨h.2.1.1.moved hvm, h.2.1.2.moved hvm⟩, ⟨h.2.2.1.moved hvm, h.2.2.2.moved hvm⟩⟩
theorem jZ.kept {zz : Nat → Nat} {A : Nat → Prop} {U : State} {H H1 : Heap} (h : jZ zz A U H) (hq : ∀ a : Nat, a < H.size → ¬ A a → H1[a]? = H[a]?) : jZ zz A U H1 :=
  ⟨⟨h.1.1.kept hq, h.1.2.kept hq⟩, ⟨h.2.1.1.kept hq, h.2.1.2.kept hq⟩, ⟨h.2.2.1.kept hq, h.2.2.2.kept hq⟩⟩
theorem jZ.narrow {zz : Nat → Nat} {A B : Nat → Prop} {U : State} {H : Heap} (h : jZ zz A U H) (hAB : ∀ q, B q → A q) : jZ zz B U H :=
  ⟨⟨h.1.1.narrow hAB, h.1.2.narrow hAB⟩, ⟨h.2.1.1.narrow hAB, h.2.1.2.narrow hAB⟩, ⟨h.2.2.1.narrow hAB, h.2.2.2.narrow hAB⟩⟩
/-- a method's contract: from the world (σ, τ) it returns r, and the world (σ', τ') is behind it, with 'post r σ' τ'' -/
def jM (l : Launch) (y : MethodName) (cc : ByteArray) (maxL : Nat) (ret : Option FieldType) (rm : Room) (D : va_G) (cI cL : ClassId) (ad zz : Nat → Nat) (av : List Value) (σ : Nat → Nat → Int32) (τ : Nat → Nat → Int64) (post : Int32 → (Nat → Nat → Int32) → (Nat → Nat → Int64) → Prop) : Prop :=
  Met l y (Cond.code y cc maxL ret :: wsL_law) rm (va_Pc av (fun U => jH D cI cL ad σ τ U.heap ∧ jK D cI cL U ∧ jZ zz (jA ad) U U.heap)) (va_Qi (fun r (u : jS) => post r u.1 u.2) (fun (u : jS) t => jH D cI cL ad u.1 u.2 t.heap ∧ jK D cI cL t) (jA ad)) 0 0 (jA ad)
def jMl (l : Launch) (y : MethodName) (cc : ByteArray) (maxL : Nat) (ret : Option FieldType) (rm : Room) (D : va_G) (cI cL : ClassId) (ad zz : Nat → Nat) (av : List Value) (σ : Nat → Nat → Int32) (τ : Nat → Nat → Int64) (post : Int64 → (Nat → Nat → Int32) → (Nat → Nat → Int64) → Prop) : Prop :=
  Met l y (Cond.code y cc maxL ret :: wsL_law) rm (va_Pc av (fun U => jH D cI cL ad σ τ U.heap ∧ jK D cI cL U ∧ jZ zz (jA ad) U U.heap)) (va_Ql (fun r (u : jS) => post r u.1 u.2) (fun (u : jS) t => jH D cI cL ad u.1 u.2 t.heap ∧ jK D cI cL t) (jA ad)) 0 0 (jA ad)
def jMv (l : Launch) (y : MethodName) (cc : ByteArray) (maxL : Nat) (ret : Option FieldType) (rm : Room) (D : va_G) (cI cL : ClassId) (ad zz : Nat → Nat) (av : List Value) (σ : Nat → Nat → Int32) (τ : Nat → Nat → Int64) (post : (Nat → Nat → Int32) → (Nat → Nat → Int64) → Prop) : Prop :=
  Met l y (Cond.code y cc maxL ret :: wsL_law) rm (va_Pc av (fun U => jH D cI cL ad σ τ U.heap ∧ jK D cI cL U ∧ jZ zz (jA ad) U U.heap)) (va_Qv (fun (u : jS) => post u.1 u.2) (fun (u : jS) t => jH D cI cL ad u.1 u.2 t.heap ∧ jK D cI cL t) (jA ad)) 0 0 (jA ad)
theorem jblind {D : va_G} {cI cL : ClassId} {ad zz : Nat → Nat} {av : List Value} {σ : Nat → Nat → Int32} {τ : Nat → Nat → Int64} : FrameBlind (va_Pc av (fun U => jH D cI cL ad σ τ U.heap ∧ jK D cI cL U ∧ jZ zz (jA ad) U U.heap)) := fun a U g mk q => ⟨q.1, q.2.1, va_K.moved (u := U) (U := U.calling g mk a) (Vm.Alike.refl U.vm) q.2.2.1, jZ.moved (u := U) (U := U.calling g mk a) (Vm.Alike.refl U.vm) q.2.2.2⟩
/-- what a method's body has at hand -/
def jC (p : Program) (s : State) (m : MethodId) (args : Array Value) (meth : Method) (c : Code) (own : String) (cc : ByteArray) (maxL : Nat) (ret : Option FieldType) (D : va_G) (cI cL : ClassId) (ad zz : Nat → Nat) : Prop :=
  p.tables.exec = Jvm.exec ∧ c.code = cc ∧ meth.sig.returnType = ret ∧ c.maxLocals = maxL ∧ s.vm.findClass own = some m.cls ∧ (∀ w ∈ wsL_law, w.before args s = true) ∧ jK D cI cL s ∧ jD ad ∧ meth.locks = false ∧ jZ zz (jA ad) s s.heap
section BODY
variable {p : Program} {l : Launch} {e : Env} {R : Room} {s : State} {m : MethodId} {args : Array Value} {below : List Frame} {meth : Method} {c : Code} {H : Heap} {locs : List Loc} {cells slots : Nat} {Q : State → Prop}
variable {D : va_G} {cI cL : ClassId} {ad zz : Nat → Nat} {σ σ0 : Nat → Nat → Int32} {τ τ0 : Nat → Nat → Int64} {y : MethodName} {cc : ByteArray} {maxL : Nat} {ret : Option FieldType} {rm : Room} {av : List Value} {A : Nat → Prop}
theorem jM.of {post : Int32 → (Nat → Nat → Int32) → (Nat → Nat → Int64) → Prop} (hJ : jD ad) (hy : plainName y.cls = true) {nt : FieldType} (hret : ret = some nt) (hlen : (lg_sl av).length ≤ maxL)
    (body : ∀ (p : Program) (e : Env) (s : State) (m : MethodId) (args : Array Value) (below : List Frame) (meth : Method) (c : Code) (Q : State → Prop) (ls : Array Slot), jC p s m args meth c y.cls cc maxL ret D cI cL ad zz →
      (∀ (v : Int32) (σ' : Nat → Nat → Int32) (τ' : Nat → Nat → Int64) (H : Heap) (locs : List Loc) (pc : Nat) (ls : Array Slot), narrow nt (.int v) = .int v → post v σ' τ' → jH D cI cL ad σ' τ' H → va_S (jA ad) s.heap H locs → decode cc pc = .ok (.ireturn, 1) → W p l e rm s m args below meth c H locs 0 0 Q (F0 m pc ls [.int v])) →
      lv_has ls maxL (lv_args 0 av) → jH D cI cL ad σ0 τ0 s.heap → W p l e rm s m args below meth c s.heap [] 0 0 Q (F0 m 0 ls [])) : jM l y cc maxL ret rm D cI cL ad zz av σ0 τ0 post := by
  refine Met.ofW (cc := cc) (maxL := maxL) (ret := ret) hy rfl ?_
  intro p e s m args below meth c s₁ B hml hv
  obtain ⟨rfl, hP, hK, hZ⟩ := hv
  have hts := atoms_spec (ws := Cond.code y cc maxL ret :: wsL_law) B.pre
  have hown : s.vm.findClass y.cls = some m.cls := findClass_of_methodNamed B.named
  rw [lg_entry_eq]
  refine body p e s m _ below meth c _ _ ⟨B.exec, B.bytes, B.returns, hml, hown, fun w hw => hts w (List.mem_cons_of_mem _ hw), hK, hJ, B.notSynchronized, hZ⟩ (fun v σ' τ' H locs pc ls hn hq hP' hS hdg => ?_) (lv_entry av hlen) hP
  have hK9 := hK
  exact W.zret (v := v) B.exec B.bytes (B.returns.trans hret) hn (fun t ht hW => ⟨⟨v, (σ', τ'), rfl, hq, by rw [ht]; exact hP', va_K.moved hW.alike hK9⟩, hS.F ht⟩) hS.2.2 hdg B.notSynchronized
theorem jMl.of {post : Int64 → (Nat → Nat → Int32) → (Nat → Nat → Int64) → Prop} (hJ : jD ad) (hy : plainName y.cls = true) (hret : ret = some .long) (hlen : (lg_sl av).length ≤ maxL)
    (body : ∀ (p : Program) (e : Env) (s : State) (m : MethodId) (args : Array Value) (below : List Frame) (meth : Method) (c : Code) (Q : State → Prop) (ls : Array Slot), jC p s m args meth c y.cls cc maxL ret D cI cL ad zz →
      (∀ (v : Int64) (σ' : Nat → Nat → Int32) (τ' : Nat → Nat → Int64) (H : Heap) (locs : List Loc) (pc : Nat) (ls : Array Slot), post v σ' τ' → jH D cI cL ad σ' τ' H → va_S (jA ad) s.heap H locs → decode cc pc = .ok (.lreturn, 1) → W p l e rm s m args below meth c H locs 0 0 Q (F0 m pc ls [.long v])) →
      lv_has ls maxL (lv_args 0 av) → jH D cI cL ad σ0 τ0 s.heap → W p l e rm s m args below meth c s.heap [] 0 0 Q (F0 m 0 ls [])) : jMl l y cc maxL ret rm D cI cL ad zz av σ0 τ0 post := by
  refine Met.ofW (cc := cc) (maxL := maxL) (ret := ret) hy rfl ?_
  intro p e s m args below meth c s₁ B hml hv
  obtain ⟨rfl, hP, hK, hZ⟩ := hv
  have hts := atoms_spec (ws := Cond.code y cc maxL ret :: wsL_law) B.pre
  have hown : s.vm.findClass y.cls = some m.cls := findClass_of_methodNamed B.named
  rw [lg_entry_eq]
  refine body p e s m _ below meth c _ _ ⟨B.exec, B.bytes, B.returns, hml, hown, fun w hw => hts w (List.mem_cons_of_mem _ hw), hK, hJ, B.notSynchronized, hZ⟩ (fun v σ' τ' H locs pc ls hq hP' hS hdg => ?_) (lv_entry av hlen) hP
  have hK9 := hK
  exact W.lret (v := v) B.exec B.bytes (B.returns.trans hret) (fun t ht hW => ⟨⟨v, (σ', τ'), rfl, hq, by rw [ht]; exact hP', va_K.moved hW.alike hK9⟩, hS.F ht⟩) hS.2.2 hdg B.notSynchronized
theorem jMv.of {post : (Nat → Nat → Int32) → (Nat → Nat → Int64) → Prop} (hJ : jD ad) (hy : plainName y.cls = true) (hret : ret = none) (hlen : (lg_sl av).length ≤ maxL)
    (body : ∀ (p : Program) (e : Env) (s : State) (m : MethodId) (args : Array Value) (below : List Frame) (meth : Method) (c : Code) (Q : State → Prop) (ls : Array Slot), jC p s m args meth c y.cls cc maxL ret D cI cL ad zz →
      (∀ (σ' : Nat → Nat → Int32) (τ' : Nat → Nat → Int64) (H : Heap) (locs : List Loc) (pc : Nat) (ls : Array Slot), post σ' τ' → jH D cI cL ad σ' τ' H → va_S (jA ad) s.heap H locs → decode cc pc = .ok (.return_, 1) → W p l e rm s m args below meth c H locs 0 0 Q (F0 m pc ls [])) →
      lv_has ls maxL (lv_args 0 av) → jH D cI cL ad σ0 τ0 s.heap → W p l e rm s m args below meth c s.heap [] 0 0 Q (F0 m 0 ls [])) : jMv l y cc maxL ret rm D cI cL ad zz av σ0 τ0 post := by
  refine Met.ofW (cc := cc) (maxL := maxL) (ret := ret) hy rfl ?_
  intro p e s m args below meth c s₁ B hml hv
  obtain ⟨rfl, hP, hK, hZ⟩ := hv
  have hts := atoms_spec (ws := Cond.code y cc maxL ret :: wsL_law) B.pre
  have hown : s.vm.findClass y.cls = some m.cls := findClass_of_methodNamed B.named
  rw [lg_entry_eq]
  refine body p e s m _ below meth c _ _ ⟨B.exec, B.bytes, B.returns, hml, hown, fun w hw => hts w (List.mem_cons_of_mem _ hw), hK, hJ, B.notSynchronized, hZ⟩ (fun σ' τ' H locs pc ls hq hP' hS hdg => ?_) (lv_entry av hlen) hP
  have hK9 := hK
  exact W.vret B.exec B.bytes (B.returns.trans hret) (fun t ht hW => ⟨⟨(σ', τ'), rfl, hq, by rw [ht]; exact hP', va_K.moved hW.alike hK9⟩, hS.F ht⟩) hS.2.2 hdg B.notSynchronized
/-- a number on the stack by another name -/
theorem jtopr {pc : Nat} {ls : Array Slot} {rest : List Value} {x y : Int32} (h : x = y) (k : W p l e R s m args below meth c H locs cells slots Q (F0 m pc ls (.int y :: rest))) : W p l e R s m args below meth c H locs cells slots Q (F0 m pc ls (.int x :: rest)) := by rw [h]; exact k
theorem jtoprl {pc : Nat} {ls : Array Slot} {rest : List Value} {x y : Int64} (h : x = y) (k : W p l e R s m args below meth c H locs cells slots Q (F0 m pc ls (.long y :: rest))) : W p l e R s m args below meth c H locs cells slots Q (F0 m pc ls (.long x :: rest)) := by rw [h]; exact k
theorem jput {pc : Nat} {ls : Array Slot} {rest : List Value} {own ref C : String} {T : u_T} {N ci index i k : Nat} {fs : List Value} {v : Int32} (hx : p.tables.exec = Jvm.exec) (hb : c.code = cc) (hts : ∀ w ∈ wsL_law, w.before args s = true) (hin : ∀ w ∈ u_ws C T N, w ∈ wsL_law) (ty0 : Nat → FieldType) (hty : ∀ k, k < N → parseFieldDescriptor (T k).2.2.1 = some (ty0 k)) (hnm : ∀ a, a < N → ∀ b, b < N → a ≠ b → (T a).2.1 ≠ (T b).2.1) (hown : s.vm.findClass own = some m.cls) (hK : jK D cI cL s) (hP : jH D cI cL ad σ τ H) (hJ : jD ad) (hA : ∀ q, jA ad q → A q) (hS : va_S A s.heap H locs)
    (he : (jw cI cL ad σ τ)[i]? = some (ad i, .inr (ci, fs))) (hc : vwCl[ci]? = some (C, T, N)) (hk : k < N) (hl : k < fs.length) (hset : (jw cI cL ad σ τ).set i (ad i, .inr (ci, fs.set k (.int v))) = jw cI cL ad (jup σ i k v) τ) (hlink : (Cond.fieldLink own index ref (T k).2.1 (T k).2.2.1).before args s = true) (hsame : ∀ x, s.fieldFound? (T k).1 (T k).2.1 (T k).2.2.1 = some x → s.fieldFound? ref (T k).2.1 (T k).2.2.1 = some x) (hfin : (T k).2.2.2 = false) {ty : FieldType} (hd : parseFieldDescriptor (T k).2.2.1 = some ty) (hn : narrow ty (.int v) = .int v) (hfit : fits ty (.int v) = true) (hdg : decode cc pc = .ok (.putfield index, 3))
    (kk : ∀ (σ1 : Nat → Nat → Int32) (H1 : Heap) (locs1 : List Loc), σ1 = jup σ i k v → jH D cI cL ad σ1 τ H1 → va_S A s.heap H1 locs1 → W p l e R s m args below meth c H1 locs1 cells slots Q (F0 m (pc + 3) ls rest)) : W p l e R s m args below meth c H locs cells slots Q (F0 m pc ls (.int v :: .ref (ad i) :: rest)) := by
  refine va_put hx hb hts hin ty0 hty hnm hown hK hP (hJ.D hA cI cL σ τ) hS i he hc k hk hlink hsame hfin hd hn hfit hl hdg fun H1 locs1 hP1 _ hS1 => kk _ H1 locs1 rfl ?_ hS1
  rw [hset] at hP1
  exact hP1
theorem jast {pc : Nat} {ls : Array Slot} {rest : List Value} {i n : Nat} {j x : Int32} (hx : p.tables.exec = Jvm.exec) (hb : c.code = cc) (hK : jK D cI cL s) (hP : jH D cI cL ad σ τ H) (hJ : jD ad) (hA : ∀ q, jA ad q → A q) (hS : va_S A s.heap H locs)
    (he : (jw cI cL ad σ τ)[i]? = some (ad i, .inl (cI, n, .inl (σ i)))) (hset : (jw cI cL ad σ τ).set i (ad i, .inl (cI, n, .inl (upd (σ i) j.toNatClampNeg x))) = jw cI cL ad (jup σ i j.toNatClampNeg x) τ) (hin : vp_in j n) (hdg : decode cc pc = .ok (.iastore, 1))
    (kk : ∀ (σ1 : Nat → Nat → Int32) (H1 : Heap) (locs1 : List Loc), σ1 = jup σ i j.toNatClampNeg x → jH D cI cL ad σ1 τ H1 → va_S A s.heap H1 locs1 → W p l e R s m args below meth c H1 locs1 cells slots Q (F0 m (pc + 1) ls rest)) : W p l e R s m args below meth c H locs cells slots Q (F0 m pc ls (.int x :: .int j :: .ref (ad i) :: rest)) := by
  refine va_iast hx hb hK hP (hJ.D hA cI cL σ τ) hS i 0 he rfl hin hdg fun H1 locs1 hP1 _ hS1 => kk _ H1 locs1 rfl ?_ hS1
  rw [hset] at hP1
  exact hP1
theorem jald {pc : Nat} {ls : Array Slot} {rest : List Value} {i n : Nat} {j : Int32} (hx : p.tables.exec = Jvm.exec) (hb : c.code = cc) (hK : jK D cI cL s) (hP : jH D cI cL ad σ τ H) (he : (jw cI cL ad σ τ)[i]? = some (ad i, .inl (cI, n, .inl (σ i)))) (hin : vp_in j n) (hdg : decode cc pc = .ok (.iaload, 1))
    (kk : W p l e R s m args below meth c H locs cells slots Q (F0 m (pc + 1) ls (.int (σ i j.toNatClampNeg) :: rest))) : W p l e R s m args below meth c H locs cells slots Q (F0 m pc ls (.int j :: .ref (ad i) :: rest)) := va_iald hx hb hK hP i 0 he rfl hin hdg kk
theorem jastL {pc : Nat} {ls : Array Slot} {rest : List Value} {i n : Nat} {j : Int32} {x : Int64} (hx : p.tables.exec = Jvm.exec) (hb : c.code = cc) (hK : jK D cI cL s) (hP : jH D cI cL ad σ τ H) (hJ : jD ad) (hA : ∀ q, jA ad q → A q) (hS : va_S A s.heap H locs)
    (he : (jw cI cL ad σ τ)[i]? = some (ad i, .inl (cL, n, .inr (.inl (τ i))))) (hset : (jw cI cL ad σ τ).set i (ad i, .inl (cL, n, .inr (.inl (vp_updL (τ i) j.toNatClampNeg x)))) = jw cI cL ad σ (jupL τ i j.toNatClampNeg x)) (hin : vp_in j n) (hdg : decode cc pc = .ok (.lastore, 1))
    (kk : ∀ (τ1 : Nat → Nat → Int64) (H1 : Heap) (locs1 : List Loc), τ1 = jupL τ i j.toNatClampNeg x → jH D cI cL ad σ τ1 H1 → va_S A s.heap H1 locs1 → W p l e R s m args below meth c H1 locs1 cells slots Q (F0 m (pc + 1) ls rest)) : W p l e R s m args below meth c H locs cells slots Q (F0 m pc ls (.long x :: .int j :: .ref (ad i) :: rest)) := by
  refine va_last hx hb hK hP (hJ.D hA cI cL σ τ) hS i 1 he rfl hin hdg fun H1 locs1 hP1 _ hS1 => kk _ H1 locs1 rfl ?_ hS1
  rw [hset] at hP1
  exact hP1
theorem jaldL {pc : Nat} {ls : Array Slot} {rest : List Value} {i n : Nat} {j : Int32} (hx : p.tables.exec = Jvm.exec) (hb : c.code = cc) (hK : jK D cI cL s) (hP : jH D cI cL ad σ τ H) (he : (jw cI cL ad σ τ)[i]? = some (ad i, .inl (cL, n, .inr (.inl (τ i))))) (hin : vp_in j n) (hdg : decode cc pc = .ok (.laload, 1))
    (kk : W p l e R s m args below meth c H locs cells slots Q (F0 m (pc + 1) ls (.long (τ i j.toNatClampNeg) :: rest))) : W p l e R s m args below meth c H locs cells slots Q (F0 m pc ls (.int j :: .ref (ad i) :: rest)) := va_lald hx hb hK hP i 1 he rfl hin hdg kk
theorem jalen {pc : Nat} {ls : Array Slot} {rest : List Value} {i n : Nat} {v : Int32} (hx : p.tables.exec = Jvm.exec) (hb : c.code = cc) (hK : jK D cI cL s) (hP : jH D cI cL ad σ τ H) (he : (jw cI cL ad σ τ)[i]? = some (ad i, .inl (cI, n, .inl (σ i)))) (hv : Int32.ofNat n = v) (hdg : decode cc pc = .ok (.arraylength, 1))
    (kk : W p l e R s m args below meth c H locs cells slots Q (F0 m (pc + 1) ls (.int v :: rest))) : W p l e R s m args below meth c H locs cells slots Q (F0 m pc ls (.ref (ad i) :: rest)) := va_alen hx hb hK hP i 0 he rfl hv hdg kk
end BODY
section CALL
variable {p : Program} {l : Launch} {e : Env} {R : Room} {s : State} {m : MethodId} {args : Array Value} {below : List Frame} {meth : Method} {c : Code} {H : Heap} {locs : List Loc} {cells slots : Nat} {Q : State → Prop}
variable {D : va_G} {cI cL : ClassId} {ad zz : Nat → Nat} {σ : Nat → Nat → Int32} {τ : Nat → Nat → Int64} {y : MethodName} {cc bytes : ByteArray} {nL maxL index n : Nat} {ret : Option FieldType} {rm : Room} {A : Nat → Prop} {own : String}
theorem jZcall {zz : Nat → Nat} {A : Nat → Prop} {U : State} (hZ : jZ zz A s s.heap) (hA : ∀ q, jA ad q → A q) (hS : va_S A s.heap H locs) (hU : U.heap = H) (hW : s.WarmedH U.vm) : jZ zz (jA ad) U U.heap := by
  rw [hU]
  exact ((hZ.kept (fun a h1 h2 => hS.2.1 a h1 h2)).narrow hA).moved hW.alike
/-- the words of a call -/
def jcw (own : String) (index : Nat) (y : MethodName) (bytes : ByteArray) (maxL : Nat) (ret : Option FieldType) (n : Nat) : Prop :=
  Cond.methodLink own index y ∈ wsL_law ∧ Cond.initialized y.cls ∈ wsL_law ∧ Cond.code y bytes maxL ret ∈ wsL_law ∧ (y.cls ≠ "java/lang/invoke/MethodHandle" ∧ y.cls ≠ "java/lang/invoke/VarHandle" ∧ (parseMethodDescriptor y.desc).map (fun d => d.parameters.length) = some n)
def jcV (own : String) (index : Nat) (y : MethodName) (bytes : ByteArray) (maxL : Nat) (ret : Option FieldType) (n : Nat) : Prop := jcw own index y bytes maxL ret n ∧ Cond.instanceMethod y ∈ wsL_law ∧ Cond.selects y.cls y y ∈ wsL_law
def jcS (own : String) (index : Nat) (y : MethodName) (bytes : ByteArray) (maxL : Nat) (ret : Option FieldType) (n : Nat) : Prop := jcw own index y bytes maxL ret n ∧ Cond.static y ∈ wsL_law
theorem jcw.B (h : jcw own index y bytes maxL ret n) (hts : ∀ w ∈ wsL_law, w.before args s = true) (hR : rm.frames + 1 ≤ R.frames ∧ 8 + (maxL + 11) + rm.locals ≤ R.locals) (hc : rm.cells = 0) (hs : rm.slots = 0) : CallB R s args own index y bytes maxL ret (Cond.code y bytes maxL ret :: wsL_law) rm 0 0 n :=
  callB_of n hts (jgoodL h.2.2.1) rfl hc hs (hts _ h.2.1) (hts _ h.1) h.2.2.2 hR
theorem jrun {pc : Nat} {ls : Array Slot} {st0 rest : List Value} {post : Int32 → (Nat → Nat → Int32) → (Nat → Nat → Int64) → Prop} {a : Array Value} (hr : va_Run p l e R s m args below meth c H locs cells slots 0 0 (F0 m pc ls st0) rest (va_Qi (fun r (u : jS) => post r u.1 u.2) (fun (u : jS) t => jH D cI cL ad u.1 u.2 t.heap ∧ jK D cI cL t) (jA ad) a) (jA ad)) (hA : ∀ q, jA ad q → A q) (hS : va_S A s.heap H locs)
    (kk : ∀ (r : Int32) (σ1 : Nat → Nat → Int32) (τ1 : Nat → Nat → Int64) (H1 : Heap) (locs1 : List Loc), post r σ1 τ1 → jH D cI cL ad σ1 τ1 H1 → va_S A s.heap H1 locs1 → W p l e R s m args below meth c H1 locs1 cells slots Q (F0 m (pc + 3) ls (.int r :: rest))) : W p l e R s m args below meth c H locs cells slots Q (F0 m pc ls st0) :=
  va_calli hr hS (fun q _ h => hA q h) (fun q h => hA q h) fun r u t H1 locs1 ht _ hq hB _ _ hS1 => kk r u.1 u.2 H1 locs1 hq (by rw [← ht]; exact hB.1) hS1
theorem jrunl {pc : Nat} {ls : Array Slot} {st0 rest : List Value} {post : Int64 → (Nat → Nat → Int32) → (Nat → Nat → Int64) → Prop} {a : Array Value} (hr : va_Run p l e R s m args below meth c H locs cells slots 0 0 (F0 m pc ls st0) rest (va_Ql (fun r (u : jS) => post r u.1 u.2) (fun (u : jS) t => jH D cI cL ad u.1 u.2 t.heap ∧ jK D cI cL t) (jA ad) a) (jA ad)) (hA : ∀ q, jA ad q → A q) (hS : va_S A s.heap H locs)
    (kk : ∀ (r : Int64) (σ1 : Nat → Nat → Int32) (τ1 : Nat → Nat → Int64) (H1 : Heap) (locs1 : List Loc), post r σ1 τ1 → jH D cI cL ad σ1 τ1 H1 → va_S A s.heap H1 locs1 → W p l e R s m args below meth c H1 locs1 cells slots Q (F0 m (pc + 3) ls (.long r :: rest))) : W p l e R s m args below meth c H locs cells slots Q (F0 m pc ls st0) :=
  va_calll hr hS (fun q _ h => hA q h) (fun q h => hA q h) fun r u t H1 locs1 ht _ hq hB _ _ hS1 => kk r u.1 u.2 H1 locs1 hq (by rw [← ht]; exact hB.1) hS1
theorem jrunv {pc : Nat} {ls : Array Slot} {st0 rest : List Value} {post : (Nat → Nat → Int32) → (Nat → Nat → Int64) → Prop} {a : Array Value} (hr : va_Run p l e R s m args below meth c H locs cells slots 0 0 (F0 m pc ls st0) rest (va_Qv (fun (u : jS) => post u.1 u.2) (fun (u : jS) t => jH D cI cL ad u.1 u.2 t.heap ∧ jK D cI cL t) (jA ad) a) (jA ad)) (hA : ∀ q, jA ad q → A q) (hS : va_S A s.heap H locs)
    (kk : ∀ (σ1 : Nat → Nat → Int32) (τ1 : Nat → Nat → Int64) (H1 : Heap) (locs1 : List Loc), post σ1 τ1 → jH D cI cL ad σ1 τ1 H1 → va_S A s.heap H1 locs1 → W p l e R s m args below meth c H1 locs1 cells slots Q (F0 m (pc + 3) ls rest)) : W p l e R s m args below meth c H locs cells slots Q (F0 m pc ls st0) :=
  va_callv hr hS (fun q _ h => hA q h) (fun q h => hA q h) fun u t H1 locs1 ht _ hq hB _ _ hS1 => kk u.1 u.2 H1 locs1 hq (by rw [← ht]; exact hB.1) hS1
variable {b i ci N : Nat} {T : u_T} {fs As rest st0 : List Value} {pc : Nat} {ls : Array Slot}
/-- an object's method, its answer an int -/
theorem jcallV {post : Int32 → (Nat → Nat → Int32) → (Nat → Nat → Int64) → Prop} (hC : CallFix p m c cc nL s args wsL_law own) (hK : jK D cI cL s) (hP : jH D cI cL ad σ τ H) (hA : ∀ q, jA ad q → A q) (hS : va_S A s.heap H locs) (hZ : jZ zz A s s.heap) (hM : jM l y bytes maxL ret rm D cI cL ad zz (.ref b :: As) σ τ post) (hw : jcV own index y bytes maxL ret n) (he : (jw cI cL ad σ τ)[i]? = some (b, .inr (ci, fs))) (hc : vwCl[ci]? = some (y.cls, T, N)) (hR : rm.frames + 1 ≤ R.frames ∧ 8 + (maxL + 11) + rm.locals ≤ R.locals) (hrc : rm.cells = 0) (hrs : rm.slots = 0) (hn : As.length = n) (hsize : ls.size = nL) (hst : st0 = As.reverse ++ .ref b :: rest) (hW : (rest.map fun v => v.category).sum ≤ 8) (hdg : decode cc pc = .ok (.invokevirtual index, 3)) (hcs : cells ≤ R.cells ∧ slots ≤ R.slots)
    (kk : ∀ (r : Int32) (σ1 : Nat → Nat → Int32) (τ1 : Nat → Nat → Int64) (H1 : Heap) (locs1 : List Loc), post r σ1 τ1 → jH D cI cL ad σ1 τ1 H1 → va_S A s.heap H1 locs1 → W p l e R s m args below meth c H1 locs1 cells slots Q (F0 m (pc + 3) ls (.int r :: rest))) : W p l e R s m args below meth c H locs cells slots Q (F0 m pc ls st0) :=
  jrun (va_runV (C := y.cls) (As := As) (rest := rest) hC hM ⟨hw.1.B hC.2.2.2.2 hR hrc hrs, hC.2.2.2.2 _ hw.2.1, hC.2.2.2.2 _ hw.2.2⟩ ⟨jblind, va_recv hK hP hc he, fun U hU hW => ⟨rfl, by rw [hU]; exact hP, va_K.moved hW.alike hK, jZcall hZ hA hS hU hW⟩⟩ rfl hn hsize hst (lv_room hW) hdg hcs) hA hS kk
theorem jcallVl {post : Int64 → (Nat → Nat → Int32) → (Nat → Nat → Int64) → Prop} (hC : CallFix p m c cc nL s args wsL_law own) (hK : jK D cI cL s) (hP : jH D cI cL ad σ τ H) (hA : ∀ q, jA ad q → A q) (hS : va_S A s.heap H locs) (hZ : jZ zz A s s.heap) (hM : jMl l y bytes maxL ret rm D cI cL ad zz (.ref b :: As) σ τ post) (hw : jcV own index y bytes maxL ret n) (he : (jw cI cL ad σ τ)[i]? = some (b, .inr (ci, fs))) (hc : vwCl[ci]? = some (y.cls, T, N)) (hR : rm.frames + 1 ≤ R.frames ∧ 8 + (maxL + 11) + rm.locals ≤ R.locals) (hrc : rm.cells = 0) (hrs : rm.slots = 0) (hn : As.length = n) (hsize : ls.size = nL) (hst : st0 = As.reverse ++ .ref b :: rest) (hW : (rest.map fun v => v.category).sum ≤ 8) (hdg : decode cc pc = .ok (.invokevirtual index, 3)) (hcs : cells ≤ R.cells ∧ slots ≤ R.slots)
    (kk : ∀ (r : Int64) (σ1 : Nat → Nat → Int32) (τ1 : Nat → Nat → Int64) (H1 : Heap) (locs1 : List Loc), post r σ1 τ1 → jH D cI cL ad σ1 τ1 H1 → va_S A s.heap H1 locs1 → W p l e R s m args below meth c H1 locs1 cells slots Q (F0 m (pc + 3) ls (.long r :: rest))) : W p l e R s m args below meth c H locs cells slots Q (F0 m pc ls st0) :=
  jrunl (va_runV (C := y.cls) (As := As) (rest := rest) hC hM ⟨hw.1.B hC.2.2.2.2 hR hrc hrs, hC.2.2.2.2 _ hw.2.1, hC.2.2.2.2 _ hw.2.2⟩ ⟨jblind, va_recv hK hP hc he, fun U hU hW => ⟨rfl, by rw [hU]; exact hP, va_K.moved hW.alike hK, jZcall hZ hA hS hU hW⟩⟩ rfl hn hsize hst (lv_room hW) hdg hcs) hA hS kk
theorem jcallVv {post : (Nat → Nat → Int32) → (Nat → Nat → Int64) → Prop} (hC : CallFix p m c cc nL s args wsL_law own) (hK : jK D cI cL s) (hP : jH D cI cL ad σ τ H) (hA : ∀ q, jA ad q → A q) (hS : va_S A s.heap H locs) (hZ : jZ zz A s s.heap) (hM : jMv l y bytes maxL ret rm D cI cL ad zz (.ref b :: As) σ τ post) (hw : jcV own index y bytes maxL ret n) (he : (jw cI cL ad σ τ)[i]? = some (b, .inr (ci, fs))) (hc : vwCl[ci]? = some (y.cls, T, N)) (hR : rm.frames + 1 ≤ R.frames ∧ 8 + (maxL + 11) + rm.locals ≤ R.locals) (hrc : rm.cells = 0) (hrs : rm.slots = 0) (hn : As.length = n) (hsize : ls.size = nL) (hst : st0 = As.reverse ++ .ref b :: rest) (hW : (rest.map fun v => v.category).sum ≤ 8) (hdg : decode cc pc = .ok (.invokevirtual index, 3)) (hcs : cells ≤ R.cells ∧ slots ≤ R.slots)
    (kk : ∀ (σ1 : Nat → Nat → Int32) (τ1 : Nat → Nat → Int64) (H1 : Heap) (locs1 : List Loc), post σ1 τ1 → jH D cI cL ad σ1 τ1 H1 → va_S A s.heap H1 locs1 → W p l e R s m args below meth c H1 locs1 cells slots Q (F0 m (pc + 3) ls rest)) : W p l e R s m args below meth c H locs cells slots Q (F0 m pc ls st0) :=
  jrunv (va_runV (C := y.cls) (As := As) (rest := rest) hC hM ⟨hw.1.B hC.2.2.2.2 hR hrc hrs, hC.2.2.2.2 _ hw.2.1, hC.2.2.2.2 _ hw.2.2⟩ ⟨jblind, va_recv hK hP hc he, fun U hU hW => ⟨rfl, by rw [hU]; exact hP, va_K.moved hW.alike hK, jZcall hZ hA hS hU hW⟩⟩ rfl hn hsize hst (lv_room hW) hdg hcs) hA hS kk
theorem jcallS {post : Int32 → (Nat → Nat → Int32) → (Nat → Nat → Int64) → Prop} (hC : CallFix p m c cc nL s args wsL_law own) (hK : jK D cI cL s) (hP : jH D cI cL ad σ τ H) (hA : ∀ q, jA ad q → A q) (hS : va_S A s.heap H locs) (hZ : jZ zz A s s.heap) (hM : jM l y bytes maxL ret rm D cI cL ad zz As σ τ post) (hw : jcS own index y bytes maxL ret n) (hR : rm.frames + 1 ≤ R.frames ∧ 8 + (maxL + 11) + rm.locals ≤ R.locals) (hrc : rm.cells = 0) (hrs : rm.slots = 0) (hn : As.length = n) (hsize : ls.size = nL) (hst : st0 = As.reverse ++ rest) (hW : (rest.map fun v => v.category).sum ≤ 8) (hdg : decode cc pc = .ok (.invokestatic index, 3)) (hcs : cells ≤ R.cells ∧ slots ≤ R.slots)
    (kk : ∀ (r : Int32) (σ1 : Nat → Nat → Int32) (τ1 : Nat → Nat → Int64) (H1 : Heap) (locs1 : List Loc), post r σ1 τ1 → jH D cI cL ad σ1 τ1 H1 → va_S A s.heap H1 locs1 → W p l e R s m args below meth c H1 locs1 cells slots Q (F0 m (pc + 3) ls (.int r :: rest))) : W p l e R s m args below meth c H locs cells slots Q (F0 m pc ls st0) :=
  jrun (va_runS (As := As) (rest := rest) hC hM ⟨hw.1.B hC.2.2.2.2 hR hrc hrs, hC.2.2.2.2 _ hw.2⟩ ⟨jblind, fun U hU hW => ⟨rfl, by rw [hU]; exact hP, va_K.moved hW.alike hK, jZcall hZ hA hS hU hW⟩⟩ rfl hn hsize hst (lv_room hW) hdg hcs) hA hS kk
end CALL
