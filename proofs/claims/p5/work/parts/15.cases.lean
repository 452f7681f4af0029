set_option maxHeartbeats 4000000 in
set_option maxRecDepth 100000 in
theorem law_case_0 {p : Program} {e : Env} {s : State} {m : MethodId} {below : List Frame} {meth : Method} {c : Code} (l : Launch) {b L : Nat} {xs : Nat → Int32} {D : va_G} {cI cL : ClassId} {ad zz : Nat → Nat} (C0 : lw_At p s m meth c b L xs) (hJ : jD ad) (hA : ∀ q, jA ad q → s.heap.size ≤ q) (hK : jK D cI cL s) (hZ : jZ zz (fun q : Nat => s.heap.size ≤ q) s s.heap) {x0 : Int32} (hx0 : 0 ≤ x0.toInt) (hxL : x0.toInt + 6 ≤ (L : Int)) (hL : L ≤ 384) {σ : Nat → Nat → Int32} {τ : Nat → Nat → Int64} {H : Heap} {locs : List Loc} (hS : va_S (fun q : Nat => s.heap.size ≤ q) s.heap H locs) {ls : Array Slot} (hAll : jAll σ τ) (hP : jH D cI cL ad σ τ H) (hl : lv_has ls 4 [(3, .int x0), (2, .ref (ad 55)), (1, .ref (ad 0)), (0, .ref b)]) (ih : ∀ (x1 : Int32) (σ : Nat → Nat → Int32) (τ : Nat → Nat → Int64) (H : Heap) (locs : List Loc) (ls : Array Slot), x1.toInt = x0.toInt + 6 → jAll σ τ → jH D cI cL ad σ τ H → va_S (fun q : Nat => s.heap.size ≤ q) s.heap H locs → lv_has ls 4 [(3, .int x1), (2, .ref (ad 55)), (1, .ref (ad 0)), (0, .ref b)] → W p l e room_1 s m #[Value.ref b] below meth c H locs 90 348600 (lw_Z below #[Value.ref b] s) (F0 m 18 ls [])) : W p l e room_1 s m #[Value.ref b] below meth c H locs 90 348600 (lw_Z below #[Value.ref b] s) (F0 m 196 ls []) := by
  obtain ⟨hx, hb, hr, hml, hown, hts0, hX, hbl, hlocks, hgv⟩ := C0
  have hts : ∀ w ∈ wsL_law, w.before #[Value.ref b] s = true := fun w h => hts0 w (wsL_law_in w h)
  have hbA : ¬ (fun q : Nat => s.heap.size ≤ q) b := Nat.not_le.mpr hbl
  have hown : s.vm.findClass RL = some m.cls := hown
  obtain ⟨hI2, hI9, hI12, hI16, hI18, hI22, hI31, hI38, hI43, hI47, hI50, hI101, hI102, hI103, hI104, hI105, hI106, hI107, hI109, hI110, hI111, hI119, hs_jKept, hs_jBook, ht0⟩ := hAll
  have hL9 : (L : Int) ≤ 384 := by omega
  refine lv_aload_n hx hb dL_law_196 rfl (lv_at hl 2 rfl) ?_
  refine lv_aload_n hx hb dL_law_197 rfl (lv_at hl 3 rfl) ?_
  refine lv_iload_n hx hb dL_law_198 rfl (lv_at hl 0 rfl) ?_
  refine lv_iconst (v := 1) hx hb dL_law_199 (by decide) ?_
  have g1 := jrg (rfl : x0.toInt = x0.toInt)
  refine lv_iadd hx hb dL_law_200 ?_
  refine lv_topi (fun x2 ex2 => ?_)
  have tx2 : x2.toInt = x0.toInt + 1 := (jadd ex2 rfl jz_1 (by omega) (by omega)).trans (by omega)
  refine va_sld hx hb hX hbl hbA hS (jin tx2 (by omega) (by omega)) dL_law_201 ?_
  have g3 := jrg (rfl : (xs x2.toNatClampNeg).toInt = (xs x2.toNatClampNeg).toInt)
  refine lv_aload_n hx hb dL_law_202 rfl (lv_at hl 3 rfl) ?_
  refine lv_iload_n hx hb dL_law_203 rfl (lv_at hl 0 rfl) ?_
  refine lv_iconst (v := 2) hx hb dL_law_204 (by decide) ?_
  refine lv_iadd hx hb dL_law_205 ?_
  refine lv_topi (fun x4 ex4 => ?_)
  have tx4 : x4.toInt = x0.toInt + 2 := (jadd ex4 rfl jz_2 (by omega) (by omega)).trans (by omega)
  refine va_sld hx hb hX hbl hbA hS (jin tx4 (by omega) (by omega)) dL_law_206 ?_
  have g5 := jrg (rfl : (xs x4.toNatClampNeg).toInt = (xs x4.toNatClampNeg).toInt)
  refine lv_aload_n hx hb dL_law_207 rfl (lv_at hl 3 rfl) ?_
  refine lv_iload_n hx hb dL_law_208 rfl (lv_at hl 0 rfl) ?_
  refine lv_iconst (v := 3) hx hb dL_law_209 (by decide) ?_
  refine lv_iadd hx hb dL_law_210 ?_
  refine lv_topi (fun x6 ex6 => ?_)
  have tx6 : x6.toInt = x0.toInt + 3 := (jadd ex6 rfl jz_3 (by omega) (by omega)).trans (by omega)
  refine va_sld hx hb hX hbl hbA hS (jin tx6 (by omega) (by omega)) dL_law_211 ?_
  have g7 := jrg (rfl : (xs x6.toNatClampNeg).toInt = (xs x6.toNatClampNeg).toInt)
  refine jcallV (As := [.int (xs x2.toNatClampNeg), .int (xs x4.toNatClampNeg), .int (xs x6.toNatClampNeg)]) (rest := []) ⟨hx, hb, hml, hown, hts⟩ hK hP hA hS hZ (c_X11_bowler l D cI cL ad zz hJ σ τ (xs x2.toNatClampNeg) ((xs x2.toNatClampNeg).toInt) rfl (xs x4.toNatClampNeg) ((xs x4.toNatClampNeg).toInt) rfl (xs x6.toNatClampNeg) ((xs x6.toNatClampNeg).toInt) rfl hI2) cw_RL_13 (jc_0 cI cL ad σ τ) rfl ⟨Nat.le_of_ble_eq_true rfl, Nat.le_of_ble_eq_true rfl⟩ rfl rfl rfl hl.1 rfl (Nat.le_of_ble_eq_true rfl) dL_law_212 ⟨Nat.le_of_ble_eq_true rfl, Nat.le_of_ble_eq_true rfl⟩ (fun r9 σ8 τ8 H locs h8 hP hS => ?_)
  obtain ⟨rfl, f10, f11, I12, h8⟩ := h8
  refine lv_pop hx hb dL_law_215 rfl ?_
  refine lv_aload_n hx hb dL_law_216 rfl (lv_at hl 1 rfl) ?_
  refine lv_aload_n hx hb dL_law_217 rfl (lv_at hl 3 rfl) ?_
  refine lv_iload_n hx hb dL_law_218 rfl (lv_at hl 0 rfl) ?_
  refine lv_iconst (v := 1) hx hb dL_law_219 (by decide) ?_
  refine lv_iadd hx hb dL_law_220 ?_
  refine jtopr ex2.symm ?_
  refine va_sld hx hb hX hbl hbA hS (jin tx2 (by omega) (by omega)) dL_law_221 ?_
  refine lv_aload_n hx hb dL_law_222 rfl (lv_at hl 3 rfl) ?_
  refine lv_iload_n hx hb dL_law_223 rfl (lv_at hl 0 rfl) ?_
  refine lv_iconst (v := 2) hx hb dL_law_224 (by decide) ?_
  refine lv_iadd hx hb dL_law_225 ?_
  refine jtopr ex4.symm ?_
  refine va_sld hx hb hX hbl hbA hS (jin tx4 (by omega) (by omega)) dL_law_226 ?_
  refine lv_aload_n hx hb dL_law_227 rfl (lv_at hl 3 rfl) ?_
  refine lv_iload_n hx hb dL_law_228 rfl (lv_at hl 0 rfl) ?_
  refine lv_iconst (v := 3) hx hb dL_law_229 (by decide) ?_
  refine lv_iadd hx hb dL_law_230 ?_
  refine jtopr ex6.symm ?_
  refine va_sld hx hb hX hbl hbA hS (jin tx6 (by omega) (by omega)) dL_law_231 ?_
  have I13 : jI101 σ8 := jI101_fr (congrFun (f10 55 (by decide)) 4) (congrFun (f10 55 (by decide)) 5) (f10 56 (by decide)) (f10 57 (by decide)) (f10 58 (by decide)) (f10 59 (by decide)) hI101
  have I14 : jI102 σ8 := jI102_fr (congrFun (f10 55 (by decide)) 6) (f10 60 (by decide)) (f10 61 (by decide)) hI102
  refine jcallV (As := [.int (xs x2.toNatClampNeg), .int (xs x4.toNatClampNeg), .int (xs x6.toNatClampNeg)]) (rest := []) ⟨hx, hb, hml, hown, hts⟩ hK hP hA hS hZ (c_X12_bowler l D cI cL ad zz hJ σ8 τ (xs x2.toNatClampNeg) ((xs x2.toNatClampNeg).toInt) rfl (xs x4.toNatClampNeg) ((xs x4.toNatClampNeg).toInt) rfl (xs x6.toNatClampNeg) ((xs x6.toNatClampNeg).toInt) rfl I13 I14) cw_RL_17 (jc_55 cI cL ad σ8 τ) rfl ⟨Nat.le_of_ble_eq_true rfl, Nat.le_of_ble_eq_true rfl⟩ rfl rfl rfl hl.1 rfl (Nat.le_of_ble_eq_true rfl) dL_law_232 ⟨Nat.le_of_ble_eq_true rfl, Nat.le_of_ble_eq_true rfl⟩ (fun r16 σ15 τ15 H locs h15 hP hS => ?_)
  obtain ⟨rfl, f17, f18, I19, I20, h15⟩ := h15
  refine lv_pop hx hb dL_law_235 rfl ?_
  refine lv_goto (tgt := 1357) hx hb dL_law_236 (by decide) ?_
  obtain ⟨x21, ex21⟩ : ∃ y : Int32, y = x0 + 6 := ⟨_, rfl⟩
  have tx21 : x21.toInt = x0.toInt + 6 := (jadd ex21 rfl jz_6 (by omega) (by omega)).trans (by omega)
  refine lv_iinc (v := x21) (lv' := [(3, .int x21), (2, .ref (ad 55)), (1, .ref (ad 0)), (0, .ref b)]) hx hb dL_law_1357 hl (k := 0) rfl (by rw [ex21]; rfl) (by decide) rfl (fun ls hl => ?_)
  refine lv_goto (tgt := 18) hx hb dL_law_1360 (by decide) ?_
  have I22 : jI2 σ15 := jI2_fr (congrFun (f17 2 (by decide)) 0) (congrFun (f17 2 (by decide)) 1) (congrFun (f17 2 (by decide)) 2) (congrFun (f17 2 (by decide)) 3) (f17 6 (by decide)) I12
  have I23 : jI9 σ15 := jI9_fr ((congrFun (f17 9 (by decide)) 0).trans (congrFun (f10 9 (by decide)) 0)) ((f17 10 (by decide)).trans (f10 10 (by decide))) ((f17 11 (by decide)).trans (f10 11 (by decide))) hI9
  have I24 : jI12 σ15 := jI12_fr ((congrFun (f17 12 (by decide)) 0).trans (congrFun (f10 12 (by decide)) 0)) ((f17 13 (by decide)).trans (f10 13 (by decide))) hI12
  have I25 : jI16 σ15 := jI16_fr ((congrFun (f17 16 (by decide)) 0).trans (congrFun (f10 16 (by decide)) 0)) ((congrFun (f17 16 (by decide)) 1).trans (congrFun (f10 16 (by decide)) 1)) ((congrFun (f17 16 (by decide)) 2).trans (congrFun (f10 16 (by decide)) 2)) ((f17 17 (by decide)).trans (f10 17 (by decide))) hI16
  have I26 : jI18 σ15 := jI18_fr ((congrFun (f17 18 (by decide)) 0).trans (congrFun (f10 18 (by decide)) 0)) ((f17 19 (by decide)).trans (f10 19 (by decide))) hI18
  have I27 : jI22 σ15 := jI22_fr ((congrFun (f17 22 (by decide)) 0).trans (congrFun (f10 22 (by decide)) 0)) ((f17 23 (by decide)).trans (f10 23 (by decide))) hI22
  have I28 : jI31 σ15 := jI31_fr ((congrFun (f17 31 (by decide)) 8).trans (congrFun (f10 31 (by decide)) 8)) ((f17 33 (by decide)).trans (f10 33 (by decide))) ((f17 36 (by decide)).trans (f10 36 (by decide))) hI31
  have I29 : jI38 σ15 := jI38_fr ((congrFun (f17 38 (by decide)) 0).trans (congrFun (f10 38 (by decide)) 0)) ((congrFun (f17 38 (by decide)) 1).trans (congrFun (f10 38 (by decide)) 1)) ((f17 39 (by decide)).trans (f10 39 (by decide))) hI38
  have I30 : jI43 σ15 := jI43_fr ((congrFun (f17 43 (by decide)) 8).trans (congrFun (f10 43 (by decide)) 8)) hI43
  have I31 : jI47 σ15 := jI47_fr ((congrFun (f17 47 (by decide)) 0).trans (congrFun (f10 47 (by decide)) 0)) ((f17 49 (by decide)).trans (f10 49 (by decide))) hI47
  have I32 : jI50 σ15 := jI50_fr ((f17 52 (by decide)).trans (f10 52 (by decide))) hI50
  have I33 : jI103 σ15 := jI103_fr ((f18 9 (by decide)).trans (congrFun (f10 55 (by decide)) 9)) hI103
  have I34 : jI104 σ15 := jI104_fr ((f18 10 (by decide)).trans (congrFun (f10 55 (by decide)) 10)) ((f18 12 (by decide)).trans (congrFun (f10 55 (by decide)) 12)) ((f18 13 (by decide)).trans (congrFun (f10 55 (by decide)) 13)) ((f17 62 (by decide)).trans (f10 62 (by decide))) ((f17 67 (by decide)).trans (f10 67 (by decide))) hI104
  have I35 : jI105 σ15 := jI105_fr ((f18 15 (by decide)).trans (congrFun (f10 55 (by decide)) 15)) ((f17 65 (by decide)).trans (f10 65 (by decide))) hI105
  have I36 : jI106 σ15 := jI106_fr ((f18 32 (by decide)).trans (congrFun (f10 55 (by decide)) 32)) ((f17 70 (by decide)).trans (f10 70 (by decide))) ((f17 71 (by decide)).trans (f10 71 (by decide))) ((f17 72 (by decide)).trans (f10 72 (by decide))) hI106
  have I37 : jI107 σ15 := jI107_fr ((f18 12 (by decide)).trans (congrFun (f10 55 (by decide)) 12)) ((f18 47 (by decide)).trans (congrFun (f10 55 (by decide)) 47)) ((f17 80 (by decide)).trans (f10 80 (by decide))) hI107
  have I38 : jI109 σ15 := jI109_fr ((f18 50 (by decide)).trans (congrFun (f10 55 (by decide)) 50)) hI109
  have I39 : jI110 σ15 := jI110_fr ((f17 86 (by decide)).trans (f10 86 (by decide))) ((f17 87 (by decide)).trans (f10 87 (by decide))) hI110
  have I40 : jI111 σ15 := jI111_fr ((f17 79 (by decide)).trans (f10 79 (by decide))) hI111
  have I41 : jI119 σ15 := jI119_fr ((f17 68 (by decide)).trans (f10 68 (by decide))) hI119
  have p42 : jKept σ15 := jKept.fr ((f17 75 (by decide)).trans (f10 75 (by decide))) ((f17 76 (by decide)).trans (f10 76 (by decide))) ((f17 77 (by decide)).trans (f10 77 (by decide))) hs_jKept
  have p43 : jBook σ15 := jBook.fr ((f18 47 (by decide)).trans (congrFun (f10 55 (by decide)) 47)) ((f18 10 (by decide)).trans (congrFun (f10 55 (by decide)) 10)) ((f17 81 (by decide)).trans (f10 81 (by decide))) hs_jBook
  have z44 : (σ15 2 1).toInt = (σ 2 1).toInt := (congrArg Int32.toInt (show σ15 2 1 = (σ 2 1) from ((congrFun (f17 2 (by decide)) 1).trans (f11 1 (by decide)))))
  have z45 : (σ15 55 9).toInt = (σ 55 9).toInt := (congrArg Int32.toInt (show σ15 55 9 = (σ 55 9) from ((f18 9 (by decide)).trans (congrFun (f10 55 (by decide)) 9))))
  exact ih x21 σ15 τ _ _ ls (by have h9 := tx21; omega) ⟨I22, I23, I24, I25, I26, I27, I28, I29, I30, I31, I32, I19, I20, I33, I34, I35, I36, I37, I38, I39, I40, I41, p42, p43, (by omega)⟩ hP hS (lv_sub hl [0, 1, 2, 3] rfl)
set_option maxHeartbeats 4000000 in
set_option maxRecDepth 100000 in
theorem law_case_1 {p : Program} {e : Env} {s : State} {m : MethodId} {below : List Frame} {meth : Method} {c : Code} (l : Launch) {b L : Nat} {xs : Nat → Int32} {D : va_G} {cI cL : ClassId} {ad zz : Nat → Nat} (C0 : lw_At p s m meth c b L xs) (hJ : jD ad) (hA : ∀ q, jA ad q → s.heap.size ≤ q) (hK : jK D cI cL s) (hZ : jZ zz (fun q : Nat => s.heap.size ≤ q) s s.heap) {x0 : Int32} (hx0 : 0 ≤ x0.toInt) (hxL : x0.toInt + 6 ≤ (L : Int)) (hL : L ≤ 384) {σ : Nat → Nat → Int32} {τ : Nat → Nat → Int64} {H : Heap} {locs : List Loc} (hS : va_S (fun q : Nat => s.heap.size ≤ q) s.heap H locs) {ls : Array Slot} (hAll : jAll σ τ) (hP : jH D cI cL ad σ τ H) (hl : lv_has ls 4 [(3, .int x0), (2, .ref (ad 55)), (1, .ref (ad 0)), (0, .ref b)]) (ih : ∀ (x1 : Int32) (σ : Nat → Nat → Int32) (τ : Nat → Nat → Int64) (H : Heap) (locs : List Loc) (ls : Array Slot), x1.toInt = x0.toInt + 6 → jAll σ τ → jH D cI cL ad σ τ H → va_S (fun q : Nat => s.heap.size ≤ q) s.heap H locs → lv_has ls 4 [(3, .int x1), (2, .ref (ad 55)), (1, .ref (ad 0)), (0, .ref b)] → W p l e room_1 s m #[Value.ref b] below meth c H locs 90 348600 (lw_Z below #[Value.ref b] s) (F0 m 18 ls [])) : W p l e room_1 s m #[Value.ref b] below meth c H locs 90 348600 (lw_Z below #[Value.ref b] s) (F0 m 239 ls []) := by
  obtain ⟨hx, hb, hr, hml, hown, hts0, hX, hbl, hlocks, hgv⟩ := C0
  have hts : ∀ w ∈ wsL_law, w.before #[Value.ref b] s = true := fun w h => hts0 w (wsL_law_in w h)
  have hbA : ¬ (fun q : Nat => s.heap.size ≤ q) b := Nat.not_le.mpr hbl
  have hown : s.vm.findClass RL = some m.cls := hown
  obtain ⟨hI2, hI9, hI12, hI16, hI18, hI22, hI31, hI38, hI43, hI47, hI50, hI101, hI102, hI103, hI104, hI105, hI106, hI107, hI109, hI110, hI111, hI119, hs_jKept, hs_jBook, ht0⟩ := hAll
  have hL9 : (L : Int) ≤ 384 := by omega
  refine lv_aload_n hx hb dL_law_239 rfl (lv_at hl 2 rfl) ?_
  refine lv_aload_n hx hb dL_law_240 rfl (lv_at hl 3 rfl) ?_
  refine lv_iload_n hx hb dL_law_241 rfl (lv_at hl 0 rfl) ?_
  refine lv_iconst (v := 1) hx hb dL_law_242 (by decide) ?_
  have g1 := jrg (rfl : x0.toInt = x0.toInt)
  refine lv_iadd hx hb dL_law_243 ?_
  refine lv_topi (fun x2 ex2 => ?_)
  have tx2 : x2.toInt = x0.toInt + 1 := (jadd ex2 rfl jz_1 (by omega) (by omega)).trans (by omega)
  refine va_sld hx hb hX hbl hbA hS (jin tx2 (by omega) (by omega)) dL_law_244 ?_
  have g3 := jrg (rfl : (xs x2.toNatClampNeg).toInt = (xs x2.toNatClampNeg).toInt)
  refine lv_aload_n hx hb dL_law_245 rfl (lv_at hl 3 rfl) ?_
  refine lv_iload_n hx hb dL_law_246 rfl (lv_at hl 0 rfl) ?_
  refine lv_iconst (v := 2) hx hb dL_law_247 (by decide) ?_
  refine lv_iadd hx hb dL_law_248 ?_
  refine lv_topi (fun x4 ex4 => ?_)
  have tx4 : x4.toInt = x0.toInt + 2 := (jadd ex4 rfl jz_2 (by omega) (by omega)).trans (by omega)
  refine va_sld hx hb hX hbl hbA hS (jin tx4 (by omega) (by omega)) dL_law_249 ?_
  have g5 := jrg (rfl : (xs x4.toNatClampNeg).toInt = (xs x4.toNatClampNeg).toInt)
  refine lv_aload_n hx hb dL_law_250 rfl (lv_at hl 3 rfl) ?_
  refine lv_iload_n hx hb dL_law_251 rfl (lv_at hl 0 rfl) ?_
  refine lv_iconst (v := 3) hx hb dL_law_252 (by decide) ?_
  refine lv_iadd hx hb dL_law_253 ?_
  refine lv_topi (fun x6 ex6 => ?_)
  have tx6 : x6.toInt = x0.toInt + 3 := (jadd ex6 rfl jz_3 (by omega) (by omega)).trans (by omega)
  refine va_sld hx hb hX hbl hbA hS (jin tx6 (by omega) (by omega)) dL_law_254 ?_
  have g7 := jrg (rfl : (xs x6.toNatClampNeg).toInt = (xs x6.toNatClampNeg).toInt)
  refine jcallV (As := [.int (xs x2.toNatClampNeg), .int (xs x4.toNatClampNeg), .int (xs x6.toNatClampNeg)]) (rest := []) ⟨hx, hb, hml, hown, hts⟩ hK hP hA hS hZ (c_X11_edge l D cI cL ad zz hJ σ τ (xs x2.toNatClampNeg) ((xs x2.toNatClampNeg).toInt) rfl (xs x4.toNatClampNeg) ((xs x4.toNatClampNeg).toInt) rfl (xs x6.toNatClampNeg) ((xs x6.toNatClampNeg).toInt) rfl hI2) cw_RL_18 (jc_0 cI cL ad σ τ) rfl ⟨Nat.le_of_ble_eq_true rfl, Nat.le_of_ble_eq_true rfl⟩ rfl rfl rfl hl.1 rfl (Nat.le_of_ble_eq_true rfl) dL_law_255 ⟨Nat.le_of_ble_eq_true rfl, Nat.le_of_ble_eq_true rfl⟩ (fun r9 σ8 τ8 H locs h8 hP hS => ?_)
  obtain ⟨rfl, f10, f11, I12, h8⟩ := h8
  refine lv_pop hx hb dL_law_258 rfl ?_
  refine lv_aload_n hx hb dL_law_259 rfl (lv_at hl 1 rfl) ?_
  refine lv_aload_n hx hb dL_law_260 rfl (lv_at hl 3 rfl) ?_
  refine lv_iload_n hx hb dL_law_261 rfl (lv_at hl 0 rfl) ?_
  refine lv_iconst (v := 1) hx hb dL_law_262 (by decide) ?_
  refine lv_iadd hx hb dL_law_263 ?_
  refine jtopr ex2.symm ?_
  refine va_sld hx hb hX hbl hbA hS (jin tx2 (by omega) (by omega)) dL_law_264 ?_
  refine lv_aload_n hx hb dL_law_265 rfl (lv_at hl 3 rfl) ?_
  refine lv_iload_n hx hb dL_law_266 rfl (lv_at hl 0 rfl) ?_
  refine lv_iconst (v := 2) hx hb dL_law_267 (by decide) ?_
  refine lv_iadd hx hb dL_law_268 ?_
  refine jtopr ex4.symm ?_
  refine va_sld hx hb hX hbl hbA hS (jin tx4 (by omega) (by omega)) dL_law_269 ?_
  refine lv_aload_n hx hb dL_law_270 rfl (lv_at hl 3 rfl) ?_
  refine lv_iload_n hx hb dL_law_271 rfl (lv_at hl 0 rfl) ?_
  refine lv_iconst (v := 3) hx hb dL_law_272 (by decide) ?_
  refine lv_iadd hx hb dL_law_273 ?_
  refine jtopr ex6.symm ?_
  refine va_sld hx hb hX hbl hbA hS (jin tx6 (by omega) (by omega)) dL_law_274 ?_
  have I13 : jI101 σ8 := jI101_fr (congrFun (f10 55 (by decide)) 4) (congrFun (f10 55 (by decide)) 5) (f10 56 (by decide)) (f10 57 (by decide)) (f10 58 (by decide)) (f10 59 (by decide)) hI101
  have I14 : jI102 σ8 := jI102_fr (congrFun (f10 55 (by decide)) 6) (f10 60 (by decide)) (f10 61 (by decide)) hI102
  refine jcallV (As := [.int (xs x2.toNatClampNeg), .int (xs x4.toNatClampNeg), .int (xs x6.toNatClampNeg)]) (rest := []) ⟨hx, hb, hml, hown, hts⟩ hK hP hA hS hZ (c_X12_edge l D cI cL ad zz hJ σ8 τ (xs x2.toNatClampNeg) ((xs x2.toNatClampNeg).toInt) rfl (xs x4.toNatClampNeg) ((xs x4.toNatClampNeg).toInt) rfl (xs x6.toNatClampNeg) ((xs x6.toNatClampNeg).toInt) rfl I13 I14) cw_RL_21 (jc_55 cI cL ad σ8 τ) rfl ⟨Nat.le_of_ble_eq_true rfl, Nat.le_of_ble_eq_true rfl⟩ rfl rfl rfl hl.1 rfl (Nat.le_of_ble_eq_true rfl) dL_law_275 ⟨Nat.le_of_ble_eq_true rfl, Nat.le_of_ble_eq_true rfl⟩ (fun r16 σ15 τ15 H locs h15 hP hS => ?_)
  obtain ⟨rfl, f17, f18, I19, h15⟩ := h15
  refine lv_pop hx hb dL_law_278 rfl ?_
  refine lv_goto (tgt := 1357) hx hb dL_law_279 (by decide) ?_
  obtain ⟨x20, ex20⟩ : ∃ y : Int32, y = x0 + 6 := ⟨_, rfl⟩
  have tx20 : x20.toInt = x0.toInt + 6 := (jadd ex20 rfl jz_6 (by omega) (by omega)).trans (by omega)
  refine lv_iinc (v := x20) (lv' := [(3, .int x20), (2, .ref (ad 55)), (1, .ref (ad 0)), (0, .ref b)]) hx hb dL_law_1357 hl (k := 0) rfl (by rw [ex20]; rfl) (by decide) rfl (fun ls hl => ?_)
  refine lv_goto (tgt := 18) hx hb dL_law_1360 (by decide) ?_
  have I21 : jI2 σ15 := jI2_fr (congrFun (f17 2 (by decide)) 0) (congrFun (f17 2 (by decide)) 1) (congrFun (f17 2 (by decide)) 2) (congrFun (f17 2 (by decide)) 3) (f17 6 (by decide)) I12
  have I22 : jI9 σ15 := jI9_fr ((congrFun (f17 9 (by decide)) 0).trans (congrFun (f10 9 (by decide)) 0)) ((f17 10 (by decide)).trans (f10 10 (by decide))) ((f17 11 (by decide)).trans (f10 11 (by decide))) hI9
  have I23 : jI12 σ15 := jI12_fr ((congrFun (f17 12 (by decide)) 0).trans (congrFun (f10 12 (by decide)) 0)) ((f17 13 (by decide)).trans (f10 13 (by decide))) hI12
  have I24 : jI16 σ15 := jI16_fr ((congrFun (f17 16 (by decide)) 0).trans (congrFun (f10 16 (by decide)) 0)) ((congrFun (f17 16 (by decide)) 1).trans (congrFun (f10 16 (by decide)) 1)) ((congrFun (f17 16 (by decide)) 2).trans (congrFun (f10 16 (by decide)) 2)) ((f17 17 (by decide)).trans (f10 17 (by decide))) hI16
  have I25 : jI18 σ15 := jI18_fr ((congrFun (f17 18 (by decide)) 0).trans (congrFun (f10 18 (by decide)) 0)) ((f17 19 (by decide)).trans (f10 19 (by decide))) hI18
  have I26 : jI22 σ15 := jI22_fr ((congrFun (f17 22 (by decide)) 0).trans (congrFun (f10 22 (by decide)) 0)) ((f17 23 (by decide)).trans (f10 23 (by decide))) hI22
  have I27 : jI31 σ15 := jI31_fr ((congrFun (f17 31 (by decide)) 8).trans (congrFun (f10 31 (by decide)) 8)) ((f17 33 (by decide)).trans (f10 33 (by decide))) ((f17 36 (by decide)).trans (f10 36 (by decide))) hI31
  have I28 : jI38 σ15 := jI38_fr ((congrFun (f17 38 (by decide)) 0).trans (congrFun (f10 38 (by decide)) 0)) ((congrFun (f17 38 (by decide)) 1).trans (congrFun (f10 38 (by decide)) 1)) ((f17 39 (by decide)).trans (f10 39 (by decide))) hI38
  have I29 : jI43 σ15 := jI43_fr ((congrFun (f17 43 (by decide)) 8).trans (congrFun (f10 43 (by decide)) 8)) hI43
  have I30 : jI47 σ15 := jI47_fr ((congrFun (f17 47 (by decide)) 0).trans (congrFun (f10 47 (by decide)) 0)) ((f17 49 (by decide)).trans (f10 49 (by decide))) hI47
  have I31 : jI50 σ15 := jI50_fr ((f17 52 (by decide)).trans (f10 52 (by decide))) hI50
  have I32 : jI102 σ15 := jI102_fr (f18 6 (by decide)) (f17 60 (by decide)) (f17 61 (by decide)) I14
  have I33 : jI103 σ15 := jI103_fr ((f18 9 (by decide)).trans (congrFun (f10 55 (by decide)) 9)) hI103
  have I34 : jI104 σ15 := jI104_fr ((f18 10 (by decide)).trans (congrFun (f10 55 (by decide)) 10)) ((f18 12 (by decide)).trans (congrFun (f10 55 (by decide)) 12)) ((f18 13 (by decide)).trans (congrFun (f10 55 (by decide)) 13)) ((f17 62 (by decide)).trans (f10 62 (by decide))) ((f17 67 (by decide)).trans (f10 67 (by decide))) hI104
  have I35 : jI105 σ15 := jI105_fr ((f18 15 (by decide)).trans (congrFun (f10 55 (by decide)) 15)) ((f17 65 (by decide)).trans (f10 65 (by decide))) hI105
  have I36 : jI106 σ15 := jI106_fr ((f18 32 (by decide)).trans (congrFun (f10 55 (by decide)) 32)) ((f17 70 (by decide)).trans (f10 70 (by decide))) ((f17 71 (by decide)).trans (f10 71 (by decide))) ((f17 72 (by decide)).trans (f10 72 (by decide))) hI106
  have I37 : jI107 σ15 := jI107_fr ((f18 12 (by decide)).trans (congrFun (f10 55 (by decide)) 12)) ((f18 47 (by decide)).trans (congrFun (f10 55 (by decide)) 47)) ((f17 80 (by decide)).trans (f10 80 (by decide))) hI107
  have I38 : jI109 σ15 := jI109_fr ((f18 50 (by decide)).trans (congrFun (f10 55 (by decide)) 50)) hI109
  have I39 : jI110 σ15 := jI110_fr ((f17 86 (by decide)).trans (f10 86 (by decide))) ((f17 87 (by decide)).trans (f10 87 (by decide))) hI110
  have I40 : jI111 σ15 := jI111_fr ((f17 79 (by decide)).trans (f10 79 (by decide))) hI111
  have I41 : jI119 σ15 := jI119_fr ((f17 68 (by decide)).trans (f10 68 (by decide))) hI119
  have p42 : jKept σ15 := jKept.fr ((f17 75 (by decide)).trans (f10 75 (by decide))) ((f17 76 (by decide)).trans (f10 76 (by decide))) ((f17 77 (by decide)).trans (f10 77 (by decide))) hs_jKept
  have p43 : jBook σ15 := jBook.fr ((f18 47 (by decide)).trans (congrFun (f10 55 (by decide)) 47)) ((f18 10 (by decide)).trans (congrFun (f10 55 (by decide)) 10)) ((f17 81 (by decide)).trans (f10 81 (by decide))) hs_jBook
  have z44 : (σ15 2 1).toInt = (σ 2 1).toInt := (congrArg Int32.toInt (show σ15 2 1 = (σ 2 1) from ((congrFun (f17 2 (by decide)) 1).trans (f11 1 (by decide)))))
  have z45 : (σ15 55 9).toInt = (σ 55 9).toInt := (congrArg Int32.toInt (show σ15 55 9 = (σ 55 9) from ((f18 9 (by decide)).trans (congrFun (f10 55 (by decide)) 9))))
  exact ih x20 σ15 τ _ _ ls (by have h9 := tx20; omega) ⟨I21, I22, I23, I24, I25, I26, I27, I28, I29, I30, I31, I19, I32, I33, I34, I35, I36, I37, I38, I39, I40, I41, p42, p43, (by omega)⟩ hP hS (lv_sub hl [0, 1, 2, 3] rfl)
set_option maxHeartbeats 4000000 in
set_option maxRecDepth 100000 in
theorem law_case_2 {p : Program} {e : Env} {s : State} {m : MethodId} {below : List Frame} {meth : Method} {c : Code} (l : Launch) {b L : Nat} {xs : Nat → Int32} {D : va_G} {cI cL : ClassId} {ad zz : Nat → Nat} (C0 : lw_At p s m meth c b L xs) (hJ : jD ad) (hA : ∀ q, jA ad q → s.heap.size ≤ q) (hK : jK D cI cL s) (hZ : jZ zz (fun q : Nat => s.heap.size ≤ q) s s.heap) {x0 : Int32} (hx0 : 0 ≤ x0.toInt) (hxL : x0.toInt + 6 ≤ (L : Int)) (hL : L ≤ 384) {σ : Nat → Nat → Int32} {τ : Nat → Nat → Int64} {H : Heap} {locs : List Loc} (hS : va_S (fun q : Nat => s.heap.size ≤ q) s.heap H locs) {ls : Array Slot} (hAll : jAll σ τ) (hP : jH D cI cL ad σ τ H) (hl : lv_has ls 4 [(3, .int x0), (2, .ref (ad 55)), (1, .ref (ad 0)), (0, .ref b)]) (ih : ∀ (x1 : Int32) (σ : Nat → Nat → Int32) (τ : Nat → Nat → Int64) (H : Heap) (locs : List Loc) (ls : Array Slot), x1.toInt = x0.toInt + 6 → jAll σ τ → jH D cI cL ad σ τ H → va_S (fun q : Nat => s.heap.size ≤ q) s.heap H locs → lv_has ls 4 [(3, .int x1), (2, .ref (ad 55)), (1, .ref (ad 0)), (0, .ref b)] → W p l e room_1 s m #[Value.ref b] below meth c H locs 90 348600 (lw_Z below #[Value.ref b] s) (F0 m 18 ls [])) : W p l e room_1 s m #[Value.ref b] below meth c H locs 90 348600 (lw_Z below #[Value.ref b] s) (F0 m 282 ls []) := by
  obtain ⟨hx, hb, hr, hml, hown, hts0, hX, hbl, hlocks, hgv⟩ := C0
  have hts : ∀ w ∈ wsL_law, w.before #[Value.ref b] s = true := fun w h => hts0 w (wsL_law_in w h)
  have hbA : ¬ (fun q : Nat => s.heap.size ≤ q) b := Nat.not_le.mpr hbl
  have hown : s.vm.findClass RL = some m.cls := hown
  obtain ⟨hI2, hI9, hI12, hI16, hI18, hI22, hI31, hI38, hI43, hI47, hI50, hI101, hI102, hI103, hI104, hI105, hI106, hI107, hI109, hI110, hI111, hI119, hs_jKept, hs_jBook, ht0⟩ := hAll
  have hL9 : (L : Int) ≤ 384 := by omega
  refine lv_aload_n hx hb dL_law_282 rfl (lv_at hl 2 rfl) ?_
  refine lv_aload_n hx hb dL_law_283 rfl (lv_at hl 3 rfl) ?_
  refine lv_iload_n hx hb dL_law_284 rfl (lv_at hl 0 rfl) ?_
  refine lv_iconst (v := 1) hx hb dL_law_285 (by decide) ?_
  have g1 := jrg (rfl : x0.toInt = x0.toInt)
  refine lv_iadd hx hb dL_law_286 ?_
  refine lv_topi (fun x2 ex2 => ?_)
  have tx2 : x2.toInt = x0.toInt + 1 := (jadd ex2 rfl jz_1 (by omega) (by omega)).trans (by omega)
  refine va_sld hx hb hX hbl hbA hS (jin tx2 (by omega) (by omega)) dL_law_287 ?_
  have g3 := jrg (rfl : (xs x2.toNatClampNeg).toInt = (xs x2.toNatClampNeg).toInt)
  refine lv_aload_n hx hb dL_law_288 rfl (lv_at hl 3 rfl) ?_
  refine lv_iload_n hx hb dL_law_289 rfl (lv_at hl 0 rfl) ?_
  refine lv_iconst (v := 2) hx hb dL_law_290 (by decide) ?_
  refine lv_iadd hx hb dL_law_291 ?_
  refine lv_topi (fun x4 ex4 => ?_)
  have tx4 : x4.toInt = x0.toInt + 2 := (jadd ex4 rfl jz_2 (by omega) (by omega)).trans (by omega)
  refine va_sld hx hb hX hbl hbA hS (jin tx4 (by omega) (by omega)) dL_law_292 ?_
  have g5 := jrg (rfl : (xs x4.toNatClampNeg).toInt = (xs x4.toNatClampNeg).toInt)
  refine lv_aload_n hx hb dL_law_293 rfl (lv_at hl 3 rfl) ?_
  refine lv_iload_n hx hb dL_law_294 rfl (lv_at hl 0 rfl) ?_
  refine lv_iconst (v := 3) hx hb dL_law_295 (by decide) ?_
  refine lv_iadd hx hb dL_law_296 ?_
  refine lv_topi (fun x6 ex6 => ?_)
  have tx6 : x6.toInt = x0.toInt + 3 := (jadd ex6 rfl jz_3 (by omega) (by omega)).trans (by omega)
  refine va_sld hx hb hX hbl hbA hS (jin tx6 (by omega) (by omega)) dL_law_297 ?_
  have g7 := jrg (rfl : (xs x6.toNatClampNeg).toInt = (xs x6.toNatClampNeg).toInt)
  refine jcallV (As := [.int (xs x2.toNatClampNeg), .int (xs x4.toNatClampNeg), .int (xs x6.toNatClampNeg)]) (rest := []) ⟨hx, hb, hml, hown, hts⟩ hK hP hA hS hZ (c_X11_field l D cI cL ad zz hJ σ τ (xs x2.toNatClampNeg) ((xs x2.toNatClampNeg).toInt) rfl (xs x4.toNatClampNeg) ((xs x4.toNatClampNeg).toInt) rfl (xs x6.toNatClampNeg) ((xs x6.toNatClampNeg).toInt) rfl hI2) cw_RL_22 (jc_0 cI cL ad σ τ) rfl ⟨Nat.le_of_ble_eq_true rfl, Nat.le_of_ble_eq_true rfl⟩ rfl rfl rfl hl.1 rfl (Nat.le_of_ble_eq_true rfl) dL_law_298 ⟨Nat.le_of_ble_eq_true rfl, Nat.le_of_ble_eq_true rfl⟩ (fun r9 σ8 τ8 H locs h8 hP hS => ?_)
  obtain ⟨rfl, f10, f11, I12, h8⟩ := h8
  refine lv_pop hx hb dL_law_301 rfl ?_
  refine lv_aload_n hx hb dL_law_302 rfl (lv_at hl 1 rfl) ?_
  refine lv_aload_n hx hb dL_law_303 rfl (lv_at hl 3 rfl) ?_
  refine lv_iload_n hx hb dL_law_304 rfl (lv_at hl 0 rfl) ?_
  refine lv_iconst (v := 1) hx hb dL_law_305 (by decide) ?_
  refine lv_iadd hx hb dL_law_306 ?_
  refine jtopr ex2.symm ?_
  refine va_sld hx hb hX hbl hbA hS (jin tx2 (by omega) (by omega)) dL_law_307 ?_
  refine lv_aload_n hx hb dL_law_308 rfl (lv_at hl 3 rfl) ?_
  refine lv_iload_n hx hb dL_law_309 rfl (lv_at hl 0 rfl) ?_
  refine lv_iconst (v := 2) hx hb dL_law_310 (by decide) ?_
  refine lv_iadd hx hb dL_law_311 ?_
  refine jtopr ex4.symm ?_
  refine va_sld hx hb hX hbl hbA hS (jin tx4 (by omega) (by omega)) dL_law_312 ?_
  refine lv_aload_n hx hb dL_law_313 rfl (lv_at hl 3 rfl) ?_
  refine lv_iload_n hx hb dL_law_314 rfl (lv_at hl 0 rfl) ?_
  refine lv_iconst (v := 3) hx hb dL_law_315 (by decide) ?_
  refine lv_iadd hx hb dL_law_316 ?_
  refine jtopr ex6.symm ?_
  refine va_sld hx hb hX hbl hbA hS (jin tx6 (by omega) (by omega)) dL_law_317 ?_
  have I13 : jI101 σ8 := jI101_fr (congrFun (f10 55 (by decide)) 4) (congrFun (f10 55 (by decide)) 5) (f10 56 (by decide)) (f10 57 (by decide)) (f10 58 (by decide)) (f10 59 (by decide)) hI101
  refine jcallV (As := [.int (xs x2.toNatClampNeg), .int (xs x4.toNatClampNeg), .int (xs x6.toNatClampNeg)]) (rest := []) ⟨hx, hb, hml, hown, hts⟩ hK hP hA hS hZ (c_X12_field l D cI cL ad zz hJ σ8 τ (xs x2.toNatClampNeg) ((xs x2.toNatClampNeg).toInt) rfl (xs x4.toNatClampNeg) ((xs x4.toNatClampNeg).toInt) rfl (xs x6.toNatClampNeg) ((xs x6.toNatClampNeg).toInt) rfl I13) cw_RL_25 (jc_55 cI cL ad σ8 τ) rfl ⟨Nat.le_of_ble_eq_true rfl, Nat.le_of_ble_eq_true rfl⟩ rfl rfl rfl hl.1 rfl (Nat.le_of_ble_eq_true rfl) dL_law_318 ⟨Nat.le_of_ble_eq_true rfl, Nat.le_of_ble_eq_true rfl⟩ (fun r15 σ14 τ14 H locs h14 hP hS => ?_)
  obtain ⟨rfl, f16, f17, I18, h14⟩ := h14
  refine lv_pop hx hb dL_law_321 rfl ?_
  refine lv_goto (tgt := 1357) hx hb dL_law_322 (by decide) ?_
  obtain ⟨x19, ex19⟩ : ∃ y : Int32, y = x0 + 6 := ⟨_, rfl⟩
  have tx19 : x19.toInt = x0.toInt + 6 := (jadd ex19 rfl jz_6 (by omega) (by omega)).trans (by omega)
  refine lv_iinc (v := x19) (lv' := [(3, .int x19), (2, .ref (ad 55)), (1, .ref (ad 0)), (0, .ref b)]) hx hb dL_law_1357 hl (k := 0) rfl (by rw [ex19]; rfl) (by decide) rfl (fun ls hl => ?_)
  refine lv_goto (tgt := 18) hx hb dL_law_1360 (by decide) ?_
  have I20 : jI2 σ14 := jI2_fr (congrFun (f16 2 (by decide)) 0) (congrFun (f16 2 (by decide)) 1) (congrFun (f16 2 (by decide)) 2) (congrFun (f16 2 (by decide)) 3) (f16 6 (by decide)) I12
  have I21 : jI9 σ14 := jI9_fr ((congrFun (f16 9 (by decide)) 0).trans (congrFun (f10 9 (by decide)) 0)) ((f16 10 (by decide)).trans (f10 10 (by decide))) ((f16 11 (by decide)).trans (f10 11 (by decide))) hI9
  have I22 : jI12 σ14 := jI12_fr ((congrFun (f16 12 (by decide)) 0).trans (congrFun (f10 12 (by decide)) 0)) ((f16 13 (by decide)).trans (f10 13 (by decide))) hI12
  have I23 : jI16 σ14 := jI16_fr ((congrFun (f16 16 (by decide)) 0).trans (congrFun (f10 16 (by decide)) 0)) ((congrFun (f16 16 (by decide)) 1).trans (congrFun (f10 16 (by decide)) 1)) ((congrFun (f16 16 (by decide)) 2).trans (congrFun (f10 16 (by decide)) 2)) ((f16 17 (by decide)).trans (f10 17 (by decide))) hI16
  have I24 : jI18 σ14 := jI18_fr ((congrFun (f16 18 (by decide)) 0).trans (congrFun (f10 18 (by decide)) 0)) ((f16 19 (by decide)).trans (f10 19 (by decide))) hI18
  have I25 : jI22 σ14 := jI22_fr ((congrFun (f16 22 (by decide)) 0).trans (congrFun (f10 22 (by decide)) 0)) ((f16 23 (by decide)).trans (f10 23 (by decide))) hI22
  have I26 : jI31 σ14 := jI31_fr ((congrFun (f16 31 (by decide)) 8).trans (congrFun (f10 31 (by decide)) 8)) ((f16 33 (by decide)).trans (f10 33 (by decide))) ((f16 36 (by decide)).trans (f10 36 (by decide))) hI31
  have I27 : jI38 σ14 := jI38_fr ((congrFun (f16 38 (by decide)) 0).trans (congrFun (f10 38 (by decide)) 0)) ((congrFun (f16 38 (by decide)) 1).trans (congrFun (f10 38 (by decide)) 1)) ((f16 39 (by decide)).trans (f10 39 (by decide))) hI38
  have I28 : jI43 σ14 := jI43_fr ((congrFun (f16 43 (by decide)) 8).trans (congrFun (f10 43 (by decide)) 8)) hI43
  have I29 : jI47 σ14 := jI47_fr ((congrFun (f16 47 (by decide)) 0).trans (congrFun (f10 47 (by decide)) 0)) ((f16 49 (by decide)).trans (f10 49 (by decide))) hI47
  have I30 : jI50 σ14 := jI50_fr ((f16 52 (by decide)).trans (f10 52 (by decide))) hI50
  have I31 : jI102 σ14 := jI102_fr ((f17 6 (by decide)).trans (congrFun (f10 55 (by decide)) 6)) ((f16 60 (by decide)).trans (f10 60 (by decide))) ((f16 61 (by decide)).trans (f10 61 (by decide))) hI102
  have I32 : jI103 σ14 := jI103_fr ((f17 9 (by decide)).trans (congrFun (f10 55 (by decide)) 9)) hI103
  have I33 : jI104 σ14 := jI104_fr ((f17 10 (by decide)).trans (congrFun (f10 55 (by decide)) 10)) ((f17 12 (by decide)).trans (congrFun (f10 55 (by decide)) 12)) ((f17 13 (by decide)).trans (congrFun (f10 55 (by decide)) 13)) ((f16 62 (by decide)).trans (f10 62 (by decide))) ((f16 67 (by decide)).trans (f10 67 (by decide))) hI104
  have I34 : jI105 σ14 := jI105_fr ((f17 15 (by decide)).trans (congrFun (f10 55 (by decide)) 15)) ((f16 65 (by decide)).trans (f10 65 (by decide))) hI105
  have I35 : jI106 σ14 := jI106_fr ((f17 32 (by decide)).trans (congrFun (f10 55 (by decide)) 32)) ((f16 70 (by decide)).trans (f10 70 (by decide))) ((f16 71 (by decide)).trans (f10 71 (by decide))) ((f16 72 (by decide)).trans (f10 72 (by decide))) hI106
  have I36 : jI107 σ14 := jI107_fr ((f17 12 (by decide)).trans (congrFun (f10 55 (by decide)) 12)) ((f17 47 (by decide)).trans (congrFun (f10 55 (by decide)) 47)) ((f16 80 (by decide)).trans (f10 80 (by decide))) hI107
  have I37 : jI109 σ14 := jI109_fr ((f17 50 (by decide)).trans (congrFun (f10 55 (by decide)) 50)) hI109
  have I38 : jI110 σ14 := jI110_fr ((f16 86 (by decide)).trans (f10 86 (by decide))) ((f16 87 (by decide)).trans (f10 87 (by decide))) hI110
  have I39 : jI111 σ14 := jI111_fr ((f16 79 (by decide)).trans (f10 79 (by decide))) hI111
  have I40 : jI119 σ14 := jI119_fr ((f16 68 (by decide)).trans (f10 68 (by decide))) hI119
  have p41 : jKept σ14 := jKept.fr ((f16 75 (by decide)).trans (f10 75 (by decide))) ((f16 76 (by decide)).trans (f10 76 (by decide))) ((f16 77 (by decide)).trans (f10 77 (by decide))) hs_jKept
  have p42 : jBook σ14 := jBook.fr ((f17 47 (by decide)).trans (congrFun (f10 55 (by decide)) 47)) ((f17 10 (by decide)).trans (congrFun (f10 55 (by decide)) 10)) ((f16 81 (by decide)).trans (f10 81 (by decide))) hs_jBook
  have z43 : (σ14 2 1).toInt = (σ 2 1).toInt := (congrArg Int32.toInt (show σ14 2 1 = (σ 2 1) from ((congrFun (f16 2 (by decide)) 1).trans (f11 1 (by decide)))))
  have z44 : (σ14 55 9).toInt = (σ 55 9).toInt := (congrArg Int32.toInt (show σ14 55 9 = (σ 55 9) from ((f17 9 (by decide)).trans (congrFun (f10 55 (by decide)) 9))))
  exact ih x19 σ14 τ _ _ ls (by have h9 := tx19; omega) ⟨I20, I21, I22, I23, I24, I25, I26, I27, I28, I29, I30, I18, I31, I32, I33, I34, I35, I36, I37, I38, I39, I40, p41, p42, (by omega)⟩ hP hS (lv_sub hl [0, 1, 2, 3] rfl)
set_option maxHeartbeats 4000000 in
set_option maxRecDepth 100000 in
theorem law_case_3 {p : Program} {e : Env} {s : State} {m : MethodId} {below : List Frame} {meth : Method} {c : Code} (l : Launch) {b L : Nat} {xs : Nat → Int32} {D : va_G} {cI cL : ClassId} {ad zz : Nat → Nat} (C0 : lw_At p s m meth c b L xs) (hJ : jD ad) (hA : ∀ q, jA ad q → s.heap.size ≤ q) (hK : jK D cI cL s) (hZ : jZ zz (fun q : Nat => s.heap.size ≤ q) s s.heap) {x0 : Int32} (hx0 : 0 ≤ x0.toInt) (hxL : x0.toInt + 6 ≤ (L : Int)) (hL : L ≤ 384) {σ : Nat → Nat → Int32} {τ : Nat → Nat → Int64} {H : Heap} {locs : List Loc} (hS : va_S (fun q : Nat => s.heap.size ≤ q) s.heap H locs) {ls : Array Slot} (hAll : jAll σ τ) (hP : jH D cI cL ad σ τ H) (hl : lv_has ls 4 [(3, .int x0), (2, .ref (ad 55)), (1, .ref (ad 0)), (0, .ref b)]) (ih : ∀ (x1 : Int32) (σ : Nat → Nat → Int32) (τ : Nat → Nat → Int64) (H : Heap) (locs : List Loc) (ls : Array Slot), x1.toInt = x0.toInt + 6 → jAll σ τ → jH D cI cL ad σ τ H → va_S (fun q : Nat => s.heap.size ≤ q) s.heap H locs → lv_has ls 4 [(3, .int x1), (2, .ref (ad 55)), (1, .ref (ad 0)), (0, .ref b)] → W p l e room_1 s m #[Value.ref b] below meth c H locs 90 348600 (lw_Z below #[Value.ref b] s) (F0 m 18 ls [])) : W p l e room_1 s m #[Value.ref b] below meth c H locs 90 348600 (lw_Z below #[Value.ref b] s) (F0 m 325 ls []) := by
  obtain ⟨hx, hb, hr, hml, hown, hts0, hX, hbl, hlocks, hgv⟩ := C0
  have hts : ∀ w ∈ wsL_law, w.before #[Value.ref b] s = true := fun w h => hts0 w (wsL_law_in w h)
  have hbA : ¬ (fun q : Nat => s.heap.size ≤ q) b := Nat.not_le.mpr hbl
  have hown : s.vm.findClass RL = some m.cls := hown
  obtain ⟨hI2, hI9, hI12, hI16, hI18, hI22, hI31, hI38, hI43, hI47, hI50, hI101, hI102, hI103, hI104, hI105, hI106, hI107, hI109, hI110, hI111, hI119, hs_jKept, hs_jBook, ht0⟩ := hAll
  have hL9 : (L : Int) ≤ 384 := by omega
  refine lv_aload_n hx hb dL_law_325 rfl (lv_at hl 2 rfl) ?_
  refine lv_aload_n hx hb dL_law_326 rfl (lv_at hl 3 rfl) ?_
  refine lv_iload_n hx hb dL_law_327 rfl (lv_at hl 0 rfl) ?_
  refine lv_iconst (v := 1) hx hb dL_law_328 (by decide) ?_
  have g1 := jrg (rfl : x0.toInt = x0.toInt)
  refine lv_iadd hx hb dL_law_329 ?_
  refine lv_topi (fun x2 ex2 => ?_)
  have tx2 : x2.toInt = x0.toInt + 1 := (jadd ex2 rfl jz_1 (by omega) (by omega)).trans (by omega)
  refine va_sld hx hb hX hbl hbA hS (jin tx2 (by omega) (by omega)) dL_law_330 ?_
  have g3 := jrg (rfl : (xs x2.toNatClampNeg).toInt = (xs x2.toNatClampNeg).toInt)
  refine jcallV (As := [.int (xs x2.toNatClampNeg)]) (rest := []) ⟨hx, hb, hml, hown, hts⟩ hK hP hA hS hZ (c_X11_set_t l D cI cL ad zz hJ σ τ (xs x2.toNatClampNeg) ((xs x2.toNatClampNeg).toInt) rfl hI2) cw_RL_26 (jc_0 cI cL ad σ τ) rfl ⟨Nat.le_of_ble_eq_true rfl, Nat.le_of_ble_eq_true rfl⟩ rfl rfl rfl hl.1 rfl (Nat.le_of_ble_eq_true rfl) dL_law_331 ⟨Nat.le_of_ble_eq_true rfl, Nat.le_of_ble_eq_true rfl⟩ (fun r5 σ4 τ4 H locs h4 hP hS => ?_)
  obtain ⟨rfl, f6, f7, I8, h4⟩ := h4
  rcases h4 with h9 | h10
  · obtain ⟨q14, k11, k12, k13⟩ := h9
    refine lv_aload_n hx hb dL_law_334 rfl (lv_at hl 1 rfl) ?_
    refine lv_aload_n hx hb dL_law_335 rfl (lv_at hl 3 rfl) ?_
    refine lv_iload_n hx hb dL_law_336 rfl (lv_at hl 0 rfl) ?_
    refine lv_iconst (v := 1) hx hb dL_law_337 (by decide) ?_
    refine lv_iadd hx hb dL_law_338 ?_
    refine jtopr ex2.symm ?_
    refine va_sld hx hb hX hbl hbA hS (jin tx2 (by omega) (by omega)) dL_law_339 ?_
    have I15 : jI103 σ4 := jI103_fr (congrFun (f6 55 (by decide)) 9) hI103
    have z16 : (σ4 55 9).toInt = (σ 55 9).toInt := (congrArg Int32.toInt (show σ4 55 9 = (σ 55 9) from (congrFun (f6 55 (by decide)) 9)))
    refine jcallV (As := [.int (xs x2.toNatClampNeg)]) (rest := [.int r5]) ⟨hx, hb, hml, hown, hts⟩ hK hP hA hS hZ (c_X12_set_t l D cI cL ad zz hJ σ4 τ (xs x2.toNatClampNeg) ((xs x2.toNatClampNeg).toInt) rfl I15) cw_RL_30 (jc_55 cI cL ad σ4 τ) rfl ⟨Nat.le_of_ble_eq_true rfl, Nat.le_of_ble_eq_true rfl⟩ rfl rfl rfl hl.1 rfl (Nat.le_of_ble_eq_true rfl) dL_law_340 ⟨Nat.le_of_ble_eq_true rfl, Nat.le_of_ble_eq_true rfl⟩ (fun r18 σ17 τ17 H locs h17 hP hS => ?_)
    obtain ⟨rfl, f19, f20, I21, h17⟩ := h17
    rcases h17 with h22 | h23
    · obtain ⟨q27, k24, k25, k26⟩ := h22
      refine lv_icmp_eq (tgt := 1357) hx hb dL_law_343 (by decide) (fun _ => ?_) (fun c => absurd (jsame (rfl : r5.toInt = r5.toInt) (rfl : r18.toInt = r18.toInt) (by omega)) c)
      obtain ⟨x28, ex28⟩ : ∃ y : Int32, y = x0 + 6 := ⟨_, rfl⟩
      have tx28 : x28.toInt = x0.toInt + 6 := (jadd ex28 rfl jz_6 (by omega) (by omega)).trans (by omega)
      refine lv_iinc (v := x28) (lv' := [(3, .int x28), (2, .ref (ad 55)), (1, .ref (ad 0)), (0, .ref b)]) hx hb dL_law_1357 hl (k := 0) rfl (by rw [ex28]; rfl) (by decide) rfl (fun ls hl => ?_)
      refine lv_goto (tgt := 18) hx hb dL_law_1360 (by decide) ?_
      have I29 : jI2 σ17 := jI2_fr (congrFun (f19 2 (by decide)) 0) (congrFun (f19 2 (by decide)) 1) (congrFun (f19 2 (by decide)) 2) (congrFun (f19 2 (by decide)) 3) (f19 6 (by decide)) I8
      have I30 : jI9 σ17 := jI9_fr ((congrFun (f19 9 (by decide)) 0).trans (congrFun (f6 9 (by decide)) 0)) ((f19 10 (by decide)).trans (f6 10 (by decide))) ((f19 11 (by decide)).trans (f6 11 (by decide))) hI9
      have I31 : jI12 σ17 := jI12_fr ((congrFun (f19 12 (by decide)) 0).trans (congrFun (f6 12 (by decide)) 0)) ((f19 13 (by decide)).trans (f6 13 (by decide))) hI12
      have I32 : jI16 σ17 := jI16_fr ((congrFun (f19 16 (by decide)) 0).trans (congrFun (f6 16 (by decide)) 0)) ((congrFun (f19 16 (by decide)) 1).trans (congrFun (f6 16 (by decide)) 1)) ((congrFun (f19 16 (by decide)) 2).trans (congrFun (f6 16 (by decide)) 2)) ((f19 17 (by decide)).trans (f6 17 (by decide))) hI16
      have I33 : jI18 σ17 := jI18_fr ((congrFun (f19 18 (by decide)) 0).trans (congrFun (f6 18 (by decide)) 0)) ((f19 19 (by decide)).trans (f6 19 (by decide))) hI18
      have I34 : jI22 σ17 := jI22_fr ((congrFun (f19 22 (by decide)) 0).trans (congrFun (f6 22 (by decide)) 0)) ((f19 23 (by decide)).trans (f6 23 (by decide))) hI22
      have I35 : jI31 σ17 := jI31_fr ((congrFun (f19 31 (by decide)) 8).trans (congrFun (f6 31 (by decide)) 8)) ((f19 33 (by decide)).trans (f6 33 (by decide))) ((f19 36 (by decide)).trans (f6 36 (by decide))) hI31
      have I36 : jI38 σ17 := jI38_fr ((congrFun (f19 38 (by decide)) 0).trans (congrFun (f6 38 (by decide)) 0)) ((congrFun (f19 38 (by decide)) 1).trans (congrFun (f6 38 (by decide)) 1)) ((f19 39 (by decide)).trans (f6 39 (by decide))) hI38
      have I37 : jI43 σ17 := jI43_fr ((congrFun (f19 43 (by decide)) 8).trans (congrFun (f6 43 (by decide)) 8)) hI43
      have I38 : jI47 σ17 := jI47_fr ((congrFun (f19 47 (by decide)) 0).trans (congrFun (f6 47 (by decide)) 0)) ((f19 49 (by decide)).trans (f6 49 (by decide))) hI47
      have I39 : jI50 σ17 := jI50_fr ((f19 52 (by decide)).trans (f6 52 (by decide))) hI50
      have I40 : jI101 σ17 := jI101_fr ((f20 4 (by decide)).trans (congrFun (f6 55 (by decide)) 4)) ((f20 5 (by decide)).trans (congrFun (f6 55 (by decide)) 5)) ((f19 56 (by decide)).trans (f6 56 (by decide))) ((f19 57 (by decide)).trans (f6 57 (by decide))) ((f19 58 (by decide)).trans (f6 58 (by decide))) ((f19 59 (by decide)).trans (f6 59 (by decide))) hI101
      have I41 : jI102 σ17 := jI102_fr ((f20 6 (by decide)).trans (congrFun (f6 55 (by decide)) 6)) ((f19 60 (by decide)).trans (f6 60 (by decide))) ((f19 61 (by decide)).trans (f6 61 (by decide))) hI102
      have I42 : jI104 σ17 := jI104_fr ((f20 10 (by decide)).trans (congrFun (f6 55 (by decide)) 10)) ((f20 12 (by decide)).trans (congrFun (f6 55 (by decide)) 12)) ((f20 13 (by decide)).trans (congrFun (f6 55 (by decide)) 13)) ((f19 62 (by decide)).trans (f6 62 (by decide))) ((f19 67 (by decide)).trans (f6 67 (by decide))) hI104
      have I43 : jI105 σ17 := jI105_fr ((f20 15 (by decide)).trans (congrFun (f6 55 (by decide)) 15)) ((f19 65 (by decide)).trans (f6 65 (by decide))) hI105
      have I44 : jI106 σ17 := jI106_fr ((f20 32 (by decide)).trans (congrFun (f6 55 (by decide)) 32)) ((f19 70 (by decide)).trans (f6 70 (by decide))) ((f19 71 (by decide)).trans (f6 71 (by decide))) ((f19 72 (by decide)).trans (f6 72 (by decide))) hI106
      have I45 : jI107 σ17 := jI107_fr ((f20 12 (by decide)).trans (congrFun (f6 55 (by decide)) 12)) ((f20 47 (by decide)).trans (congrFun (f6 55 (by decide)) 47)) ((f19 80 (by decide)).trans (f6 80 (by decide))) hI107
      have I46 : jI109 σ17 := jI109_fr ((f20 50 (by decide)).trans (congrFun (f6 55 (by decide)) 50)) hI109
      have I47 : jI110 σ17 := jI110_fr ((f19 86 (by decide)).trans (f6 86 (by decide))) ((f19 87 (by decide)).trans (f6 87 (by decide))) hI110
      have I48 : jI111 σ17 := jI111_fr ((f19 79 (by decide)).trans (f6 79 (by decide))) hI111
      have I49 : jI119 σ17 := jI119_fr ((f19 68 (by decide)).trans (f6 68 (by decide))) hI119
      have p50 : jKept σ17 := jKept.fr ((f19 75 (by decide)).trans (f6 75 (by decide))) ((f19 76 (by decide)).trans (f6 76 (by decide))) ((f19 77 (by decide)).trans (f6 77 (by decide))) hs_jKept
      have p51 : jBook σ17 := jBook.fr ((f20 47 (by decide)).trans (congrFun (f6 55 (by decide)) 47)) ((f20 10 (by decide)).trans (congrFun (f6 55 (by decide)) 10)) ((f19 81 (by decide)).trans (f6 81 (by decide))) hs_jBook
      have z52 : (σ17 2 1).toInt = (σ4 2 1).toInt := (congrArg Int32.toInt (show σ17 2 1 = (σ4 2 1) from (congrFun (f19 2 (by decide)) 1)))
      exact ih x28 σ17 τ _ _ ls (by have h9 := tx28; omega) ⟨I29, I30, I31, I32, I33, I34, I35, I36, I37, I38, I39, I40, I41, I21, I42, I43, I44, I45, I46, I47, I48, I49, p50, p51, (by omega)⟩ hP hS (lv_sub hl [0, 1, 2, 3] rfl)
    · obtain ⟨q55, k53, k54⟩ := h23
      exact absurd (by omega : False) id
  · obtain ⟨q58, k56, k57⟩ := h10
    have q58 := q58.symm
    subst q58
    refine lv_aload_n hx hb dL_law_334 rfl (lv_at hl 1 rfl) ?_
    refine lv_aload_n hx hb dL_law_335 rfl (lv_at hl 3 rfl) ?_
    refine lv_iload_n hx hb dL_law_336 rfl (lv_at hl 0 rfl) ?_
    refine lv_iconst (v := 1) hx hb dL_law_337 (by decide) ?_
    refine lv_iadd hx hb dL_law_338 ?_
    refine jtopr ex2.symm ?_
    refine va_sld hx hb hX hbl hbA hS (jin tx2 (by omega) (by omega)) dL_law_339 ?_
    have I59 : jI103 σ4 := jI103_fr (congrFun (f6 55 (by decide)) 9) hI103
    have z60 : (σ4 55 9).toInt = (σ 55 9).toInt := (congrArg Int32.toInt (show σ4 55 9 = (σ 55 9) from (congrFun (f6 55 (by decide)) 9)))
    refine jcallV (As := [.int (xs x2.toNatClampNeg)]) (rest := [.int (-1)]) ⟨hx, hb, hml, hown, hts⟩ hK hP hA hS hZ (c_X12_set_t l D cI cL ad zz hJ σ4 τ (xs x2.toNatClampNeg) ((xs x2.toNatClampNeg).toInt) rfl I59) cw_RL_30 (jc_55 cI cL ad σ4 τ) rfl ⟨Nat.le_of_ble_eq_true rfl, Nat.le_of_ble_eq_true rfl⟩ rfl rfl rfl hl.1 rfl (Nat.le_of_ble_eq_true rfl) dL_law_340 ⟨Nat.le_of_ble_eq_true rfl, Nat.le_of_ble_eq_true rfl⟩ (fun r62 σ61 τ61 H locs h61 hP hS => ?_)
    obtain ⟨rfl, f63, f64, I65, h61⟩ := h61
    rcases h61 with h66 | h67
    · obtain ⟨q71, k68, k69, k70⟩ := h66
      exact absurd (by omega : False) id
    · obtain ⟨q74, k72, k73⟩ := h67
      have q74 := q74.symm
      subst q74
      refine lv_icmp_eq (tgt := 1357) hx hb dL_law_343 (by decide) (fun _ => ?_) (fun c => absurd (rfl) c)
      obtain ⟨x75, ex75⟩ : ∃ y : Int32, y = x0 + 6 := ⟨_, rfl⟩
      have tx75 : x75.toInt = x0.toInt + 6 := (jadd ex75 rfl jz_6 (by omega) (by omega)).trans (by omega)
      refine lv_iinc (v := x75) (lv' := [(3, .int x75), (2, .ref (ad 55)), (1, .ref (ad 0)), (0, .ref b)]) hx hb dL_law_1357 hl (k := 0) rfl (by rw [ex75]; rfl) (by decide) rfl (fun ls hl => ?_)
      refine lv_goto (tgt := 18) hx hb dL_law_1360 (by decide) ?_
      have I76 : jI2 σ61 := jI2_fr (congrFun (f63 2 (by decide)) 0) (congrFun (f63 2 (by decide)) 1) (congrFun (f63 2 (by decide)) 2) (congrFun (f63 2 (by decide)) 3) (f63 6 (by decide)) I8
      have I77 : jI9 σ61 := jI9_fr ((congrFun (f63 9 (by decide)) 0).trans (congrFun (f6 9 (by decide)) 0)) ((f63 10 (by decide)).trans (f6 10 (by decide))) ((f63 11 (by decide)).trans (f6 11 (by decide))) hI9
      have I78 : jI12 σ61 := jI12_fr ((congrFun (f63 12 (by decide)) 0).trans (congrFun (f6 12 (by decide)) 0)) ((f63 13 (by decide)).trans (f6 13 (by decide))) hI12
      have I79 : jI16 σ61 := jI16_fr ((congrFun (f63 16 (by decide)) 0).trans (congrFun (f6 16 (by decide)) 0)) ((congrFun (f63 16 (by decide)) 1).trans (congrFun (f6 16 (by decide)) 1)) ((congrFun (f63 16 (by decide)) 2).trans (congrFun (f6 16 (by decide)) 2)) ((f63 17 (by decide)).trans (f6 17 (by decide))) hI16
      have I80 : jI18 σ61 := jI18_fr ((congrFun (f63 18 (by decide)) 0).trans (congrFun (f6 18 (by decide)) 0)) ((f63 19 (by decide)).trans (f6 19 (by decide))) hI18
      have I81 : jI22 σ61 := jI22_fr ((congrFun (f63 22 (by decide)) 0).trans (congrFun (f6 22 (by decide)) 0)) ((f63 23 (by decide)).trans (f6 23 (by decide))) hI22
      have I82 : jI31 σ61 := jI31_fr ((congrFun (f63 31 (by decide)) 8).trans (congrFun (f6 31 (by decide)) 8)) ((f63 33 (by decide)).trans (f6 33 (by decide))) ((f63 36 (by decide)).trans (f6 36 (by decide))) hI31
      have I83 : jI38 σ61 := jI38_fr ((congrFun (f63 38 (by decide)) 0).trans (congrFun (f6 38 (by decide)) 0)) ((congrFun (f63 38 (by decide)) 1).trans (congrFun (f6 38 (by decide)) 1)) ((f63 39 (by decide)).trans (f6 39 (by decide))) hI38
      have I84 : jI43 σ61 := jI43_fr ((congrFun (f63 43 (by decide)) 8).trans (congrFun (f6 43 (by decide)) 8)) hI43
      have I85 : jI47 σ61 := jI47_fr ((congrFun (f63 47 (by decide)) 0).trans (congrFun (f6 47 (by decide)) 0)) ((f63 49 (by decide)).trans (f6 49 (by decide))) hI47
      have I86 : jI50 σ61 := jI50_fr ((f63 52 (by decide)).trans (f6 52 (by decide))) hI50
      have I87 : jI101 σ61 := jI101_fr ((f64 4 (by decide)).trans (congrFun (f6 55 (by decide)) 4)) ((f64 5 (by decide)).trans (congrFun (f6 55 (by decide)) 5)) ((f63 56 (by decide)).trans (f6 56 (by decide))) ((f63 57 (by decide)).trans (f6 57 (by decide))) ((f63 58 (by decide)).trans (f6 58 (by decide))) ((f63 59 (by decide)).trans (f6 59 (by decide))) hI101
      have I88 : jI102 σ61 := jI102_fr ((f64 6 (by decide)).trans (congrFun (f6 55 (by decide)) 6)) ((f63 60 (by decide)).trans (f6 60 (by decide))) ((f63 61 (by decide)).trans (f6 61 (by decide))) hI102
      have I89 : jI104 σ61 := jI104_fr ((f64 10 (by decide)).trans (congrFun (f6 55 (by decide)) 10)) ((f64 12 (by decide)).trans (congrFun (f6 55 (by decide)) 12)) ((f64 13 (by decide)).trans (congrFun (f6 55 (by decide)) 13)) ((f63 62 (by decide)).trans (f6 62 (by decide))) ((f63 67 (by decide)).trans (f6 67 (by decide))) hI104
      have I90 : jI105 σ61 := jI105_fr ((f64 15 (by decide)).trans (congrFun (f6 55 (by decide)) 15)) ((f63 65 (by decide)).trans (f6 65 (by decide))) hI105
      have I91 : jI106 σ61 := jI106_fr ((f64 32 (by decide)).trans (congrFun (f6 55 (by decide)) 32)) ((f63 70 (by decide)).trans (f6 70 (by decide))) ((f63 71 (by decide)).trans (f6 71 (by decide))) ((f63 72 (by decide)).trans (f6 72 (by decide))) hI106
      have I92 : jI107 σ61 := jI107_fr ((f64 12 (by decide)).trans (congrFun (f6 55 (by decide)) 12)) ((f64 47 (by decide)).trans (congrFun (f6 55 (by decide)) 47)) ((f63 80 (by decide)).trans (f6 80 (by decide))) hI107
      have I93 : jI109 σ61 := jI109_fr ((f64 50 (by decide)).trans (congrFun (f6 55 (by decide)) 50)) hI109
      have I94 : jI110 σ61 := jI110_fr ((f63 86 (by decide)).trans (f6 86 (by decide))) ((f63 87 (by decide)).trans (f6 87 (by decide))) hI110
      have I95 : jI111 σ61 := jI111_fr ((f63 79 (by decide)).trans (f6 79 (by decide))) hI111
      have I96 : jI119 σ61 := jI119_fr ((f63 68 (by decide)).trans (f6 68 (by decide))) hI119
      have p97 : jKept σ61 := jKept.fr ((f63 75 (by decide)).trans (f6 75 (by decide))) ((f63 76 (by decide)).trans (f6 76 (by decide))) ((f63 77 (by decide)).trans (f6 77 (by decide))) hs_jKept
      have p98 : jBook σ61 := jBook.fr ((f64 47 (by decide)).trans (congrFun (f6 55 (by decide)) 47)) ((f64 10 (by decide)).trans (congrFun (f6 55 (by decide)) 10)) ((f63 81 (by decide)).trans (f6 81 (by decide))) hs_jBook
      have z99 : (σ61 2 1).toInt = (σ4 2 1).toInt := (congrArg Int32.toInt (show σ61 2 1 = (σ4 2 1) from (congrFun (f63 2 (by decide)) 1)))
      exact ih x75 σ61 τ _ _ ls (by have h9 := tx75; omega) ⟨I76, I77, I78, I79, I80, I81, I82, I83, I84, I85, I86, I87, I88, I65, I89, I90, I91, I92, I93, I94, I95, I96, p97, p98, (by omega)⟩ hP hS (lv_sub hl [0, 1, 2, 3] rfl)
set_option maxHeartbeats 4000000 in
set_option maxRecDepth 100000 in
theorem law_case_4 {p : Program} {e : Env} {s : State} {m : MethodId} {below : List Frame} {meth : Method} {c : Code} (l : Launch) {b L : Nat} {xs : Nat → Int32} {D : va_G} {cI cL : ClassId} {ad zz : Nat → Nat} (C0 : lw_At p s m meth c b L xs) (hJ : jD ad) (hA : ∀ q, jA ad q → s.heap.size ≤ q) (hK : jK D cI cL s) (hZ : jZ zz (fun q : Nat => s.heap.size ≤ q) s s.heap) {x0 : Int32} (hx0 : 0 ≤ x0.toInt) (hxL : x0.toInt + 6 ≤ (L : Int)) (hL : L ≤ 384) {σ : Nat → Nat → Int32} {τ : Nat → Nat → Int64} {H : Heap} {locs : List Loc} (hS : va_S (fun q : Nat => s.heap.size ≤ q) s.heap H locs) {ls : Array Slot} (hAll : jAll σ τ) (hP : jH D cI cL ad σ τ H) (hl : lv_has ls 4 [(3, .int x0), (2, .ref (ad 55)), (1, .ref (ad 0)), (0, .ref b)]) (ih : ∀ (x1 : Int32) (σ : Nat → Nat → Int32) (τ : Nat → Nat → Int64) (H : Heap) (locs : List Loc) (ls : Array Slot), x1.toInt = x0.toInt + 6 → jAll σ τ → jH D cI cL ad σ τ H → va_S (fun q : Nat => s.heap.size ≤ q) s.heap H locs → lv_has ls 4 [(3, .int x1), (2, .ref (ad 55)), (1, .ref (ad 0)), (0, .ref b)] → W p l e room_1 s m #[Value.ref b] below meth c H locs 90 348600 (lw_Z below #[Value.ref b] s) (F0 m 18 ls [])) : W p l e room_1 s m #[Value.ref b] below meth c H locs 90 348600 (lw_Z below #[Value.ref b] s) (F0 m 348 ls []) := by
  obtain ⟨hx, hb, hr, hml, hown, hts0, hX, hbl, hlocks, hgv⟩ := C0
  have hts : ∀ w ∈ wsL_law, w.before #[Value.ref b] s = true := fun w h => hts0 w (wsL_law_in w h)
  have hbA : ¬ (fun q : Nat => s.heap.size ≤ q) b := Nat.not_le.mpr hbl
  have hown : s.vm.findClass RL = some m.cls := hown
  obtain ⟨hI2, hI9, hI12, hI16, hI18, hI22, hI31, hI38, hI43, hI47, hI50, hI101, hI102, hI103, hI104, hI105, hI106, hI107, hI109, hI110, hI111, hI119, hs_jKept, hs_jBook, ht0⟩ := hAll
  have hL9 : (L : Int) ≤ 384 := by omega
  refine lv_aload_n hx hb dL_law_348 rfl (lv_at hl 2 rfl) ?_
  refine lv_aload_n hx hb dL_law_349 rfl (lv_at hl 3 rfl) ?_
  refine lv_iload_n hx hb dL_law_350 rfl (lv_at hl 0 rfl) ?_
  refine lv_iconst (v := 1) hx hb dL_law_351 (by decide) ?_
  have g1 := jrg (rfl : x0.toInt = x0.toInt)
  refine lv_iadd hx hb dL_law_352 ?_
  refine lv_topi (fun x2 ex2 => ?_)
  have tx2 : x2.toInt = x0.toInt + 1 := (jadd ex2 rfl jz_1 (by omega) (by omega)).trans (by omega)
  refine va_sld hx hb hX hbl hbA hS (jin tx2 (by omega) (by omega)) dL_law_353 ?_
  have g3 := jrg (rfl : (xs x2.toNatClampNeg).toInt = (xs x2.toNatClampNeg).toInt)
  refine lv_aload_n hx hb dL_law_354 rfl (lv_at hl 3 rfl) ?_
  refine lv_iload_n hx hb dL_law_355 rfl (lv_at hl 0 rfl) ?_
  refine lv_iconst (v := 2) hx hb dL_law_356 (by decide) ?_
  refine lv_iadd hx hb dL_law_357 ?_
  refine lv_topi (fun x4 ex4 => ?_)
  have tx4 : x4.toInt = x0.toInt + 2 := (jadd ex4 rfl jz_2 (by omega) (by omega)).trans (by omega)
  refine va_sld hx hb hX hbl hbA hS (jin tx4 (by omega) (by omega)) dL_law_358 ?_
  have g5 := jrg (rfl : (xs x4.toNatClampNeg).toInt = (xs x4.toNatClampNeg).toInt)
  refine jcallV (As := [.int (xs x2.toNatClampNeg), .int (xs x4.toNatClampNeg)]) (rest := []) ⟨hx, hb, hml, hown, hts⟩ hK hP hA hS hZ (c_X11_feed l D cI cL ad zz hJ σ τ (xs x2.toNatClampNeg) ((xs x2.toNatClampNeg).toInt) rfl (xs x4.toNatClampNeg) ((xs x4.toNatClampNeg).toInt) rfl hI9) cw_RL_31 (jc_0 cI cL ad σ τ) rfl ⟨Nat.le_of_ble_eq_true rfl, Nat.le_of_ble_eq_true rfl⟩ rfl rfl rfl hl.1 rfl (Nat.le_of_ble_eq_true rfl) dL_law_359 ⟨Nat.le_of_ble_eq_true rfl, Nat.le_of_ble_eq_true rfl⟩ (fun r7 σ6 τ6 H locs h6 hP hS => ?_)
  obtain ⟨rfl, f8, f9, I10, h6⟩ := h6
  refine lv_pop hx hb dL_law_362 rfl ?_
  refine lv_aload_n hx hb dL_law_363 rfl (lv_at hl 1 rfl) ?_
  refine lv_aload_n hx hb dL_law_364 rfl (lv_at hl 3 rfl) ?_
  refine lv_iload_n hx hb dL_law_365 rfl (lv_at hl 0 rfl) ?_
  refine lv_iconst (v := 1) hx hb dL_law_366 (by decide) ?_
  refine lv_iadd hx hb dL_law_367 ?_
  refine jtopr ex2.symm ?_
  refine va_sld hx hb hX hbl hbA hS (jin tx2 (by omega) (by omega)) dL_law_368 ?_
  refine lv_aload_n hx hb dL_law_369 rfl (lv_at hl 3 rfl) ?_
  refine lv_iload_n hx hb dL_law_370 rfl (lv_at hl 0 rfl) ?_
  refine lv_iconst (v := 2) hx hb dL_law_371 (by decide) ?_
  refine lv_iadd hx hb dL_law_372 ?_
  refine jtopr ex4.symm ?_
  refine va_sld hx hb hX hbl hbA hS (jin tx4 (by omega) (by omega)) dL_law_373 ?_
  have I11 : jI105 σ6 := jI105_fr (congrFun (f8 55 (by decide)) 15) (f8 65 (by decide)) hI105
  refine jcallV (As := [.int (xs x2.toNatClampNeg), .int (xs x4.toNatClampNeg)]) (rest := []) ⟨hx, hb, hml, hown, hts⟩ hK hP hA hS hZ (c_X12_feed l D cI cL ad zz hJ σ6 τ (xs x2.toNatClampNeg) ((xs x2.toNatClampNeg).toInt) rfl (xs x4.toNatClampNeg) ((xs x4.toNatClampNeg).toInt) rfl I11) cw_RL_35 (jc_55 cI cL ad σ6 τ) rfl ⟨Nat.le_of_ble_eq_true rfl, Nat.le_of_ble_eq_true rfl⟩ rfl rfl rfl hl.1 rfl (Nat.le_of_ble_eq_true rfl) dL_law_374 ⟨Nat.le_of_ble_eq_true rfl, Nat.le_of_ble_eq_true rfl⟩ (fun r13 σ12 τ12 H locs h12 hP hS => ?_)
  obtain ⟨rfl, f14, f15, I16, h12⟩ := h12
  refine lv_pop hx hb dL_law_377 rfl ?_
  refine lv_goto (tgt := 1357) hx hb dL_law_378 (by decide) ?_
  obtain ⟨x17, ex17⟩ : ∃ y : Int32, y = x0 + 6 := ⟨_, rfl⟩
  have tx17 : x17.toInt = x0.toInt + 6 := (jadd ex17 rfl jz_6 (by omega) (by omega)).trans (by omega)
  refine lv_iinc (v := x17) (lv' := [(3, .int x17), (2, .ref (ad 55)), (1, .ref (ad 0)), (0, .ref b)]) hx hb dL_law_1357 hl (k := 0) rfl (by rw [ex17]; rfl) (by decide) rfl (fun ls hl => ?_)
  refine lv_goto (tgt := 18) hx hb dL_law_1360 (by decide) ?_
  have I18 : jI2 σ12 := jI2_fr ((congrFun (f14 2 (by decide)) 0).trans (congrFun (f8 2 (by decide)) 0)) ((congrFun (f14 2 (by decide)) 1).trans (congrFun (f8 2 (by decide)) 1)) ((congrFun (f14 2 (by decide)) 2).trans (congrFun (f8 2 (by decide)) 2)) ((congrFun (f14 2 (by decide)) 3).trans (congrFun (f8 2 (by decide)) 3)) ((f14 6 (by decide)).trans (f8 6 (by decide))) hI2
  have I19 : jI9 σ12 := jI9_fr (congrFun (f14 9 (by decide)) 0) (f14 10 (by decide)) (f14 11 (by decide)) I10
  have I20 : jI12 σ12 := jI12_fr ((congrFun (f14 12 (by decide)) 0).trans (congrFun (f8 12 (by decide)) 0)) ((f14 13 (by decide)).trans (f8 13 (by decide))) hI12
  have I21 : jI16 σ12 := jI16_fr ((congrFun (f14 16 (by decide)) 0).trans (congrFun (f8 16 (by decide)) 0)) ((congrFun (f14 16 (by decide)) 1).trans (congrFun (f8 16 (by decide)) 1)) ((congrFun (f14 16 (by decide)) 2).trans (congrFun (f8 16 (by decide)) 2)) ((f14 17 (by decide)).trans (f8 17 (by decide))) hI16
  have I22 : jI18 σ12 := jI18_fr ((congrFun (f14 18 (by decide)) 0).trans (congrFun (f8 18 (by decide)) 0)) ((f14 19 (by decide)).trans (f8 19 (by decide))) hI18
  have I23 : jI22 σ12 := jI22_fr ((congrFun (f14 22 (by decide)) 0).trans (congrFun (f8 22 (by decide)) 0)) ((f14 23 (by decide)).trans (f8 23 (by decide))) hI22
  have I24 : jI31 σ12 := jI31_fr ((congrFun (f14 31 (by decide)) 8).trans (congrFun (f8 31 (by decide)) 8)) ((f14 33 (by decide)).trans (f8 33 (by decide))) ((f14 36 (by decide)).trans (f8 36 (by decide))) hI31
  have I25 : jI38 σ12 := jI38_fr ((congrFun (f14 38 (by decide)) 0).trans (congrFun (f8 38 (by decide)) 0)) ((congrFun (f14 38 (by decide)) 1).trans (congrFun (f8 38 (by decide)) 1)) ((f14 39 (by decide)).trans (f8 39 (by decide))) hI38
  have I26 : jI43 σ12 := jI43_fr ((congrFun (f14 43 (by decide)) 8).trans (congrFun (f8 43 (by decide)) 8)) hI43
  have I27 : jI47 σ12 := jI47_fr ((congrFun (f14 47 (by decide)) 0).trans (congrFun (f8 47 (by decide)) 0)) ((f14 49 (by decide)).trans (f8 49 (by decide))) hI47
  have I28 : jI50 σ12 := jI50_fr ((f14 52 (by decide)).trans (f8 52 (by decide))) hI50
  have I29 : jI101 σ12 := jI101_fr ((f15 4 (by decide)).trans (congrFun (f8 55 (by decide)) 4)) ((f15 5 (by decide)).trans (congrFun (f8 55 (by decide)) 5)) ((f14 56 (by decide)).trans (f8 56 (by decide))) ((f14 57 (by decide)).trans (f8 57 (by decide))) ((f14 58 (by decide)).trans (f8 58 (by decide))) ((f14 59 (by decide)).trans (f8 59 (by decide))) hI101
  have I30 : jI102 σ12 := jI102_fr ((f15 6 (by decide)).trans (congrFun (f8 55 (by decide)) 6)) ((f14 60 (by decide)).trans (f8 60 (by decide))) ((f14 61 (by decide)).trans (f8 61 (by decide))) hI102
  have I31 : jI103 σ12 := jI103_fr ((f15 9 (by decide)).trans (congrFun (f8 55 (by decide)) 9)) hI103
  have I32 : jI104 σ12 := jI104_fr ((f15 10 (by decide)).trans (congrFun (f8 55 (by decide)) 10)) ((f15 12 (by decide)).trans (congrFun (f8 55 (by decide)) 12)) ((f15 13 (by decide)).trans (congrFun (f8 55 (by decide)) 13)) ((f14 62 (by decide)).trans (f8 62 (by decide))) ((f14 67 (by decide)).trans (f8 67 (by decide))) hI104
  have I33 : jI106 σ12 := jI106_fr ((f15 32 (by decide)).trans (congrFun (f8 55 (by decide)) 32)) ((f14 70 (by decide)).trans (f8 70 (by decide))) ((f14 71 (by decide)).trans (f8 71 (by decide))) ((f14 72 (by decide)).trans (f8 72 (by decide))) hI106
  have I34 : jI107 σ12 := jI107_fr ((f15 12 (by decide)).trans (congrFun (f8 55 (by decide)) 12)) ((f15 47 (by decide)).trans (congrFun (f8 55 (by decide)) 47)) ((f14 80 (by decide)).trans (f8 80 (by decide))) hI107
  have I35 : jI109 σ12 := jI109_fr ((f15 50 (by decide)).trans (congrFun (f8 55 (by decide)) 50)) hI109
  have I36 : jI110 σ12 := jI110_fr ((f14 86 (by decide)).trans (f8 86 (by decide))) ((f14 87 (by decide)).trans (f8 87 (by decide))) hI110
  have I37 : jI111 σ12 := jI111_fr ((f14 79 (by decide)).trans (f8 79 (by decide))) hI111
  have I38 : jI119 σ12 := jI119_fr ((f14 68 (by decide)).trans (f8 68 (by decide))) hI119
  have p39 : jKept σ12 := jKept.fr ((f14 75 (by decide)).trans (f8 75 (by decide))) ((f14 76 (by decide)).trans (f8 76 (by decide))) ((f14 77 (by decide)).trans (f8 77 (by decide))) hs_jKept
  have p40 : jBook σ12 := jBook.fr ((f15 47 (by decide)).trans (congrFun (f8 55 (by decide)) 47)) ((f15 10 (by decide)).trans (congrFun (f8 55 (by decide)) 10)) ((f14 81 (by decide)).trans (f8 81 (by decide))) hs_jBook
  have z41 : (σ12 2 1).toInt = (σ 2 1).toInt := (congrArg Int32.toInt (show σ12 2 1 = (σ 2 1) from ((congrFun (f14 2 (by decide)) 1).trans (congrFun (f8 2 (by decide)) 1))))
  have z42 : (σ12 55 9).toInt = (σ 55 9).toInt := (congrArg Int32.toInt (show σ12 55 9 = (σ 55 9) from ((f15 9 (by decide)).trans (congrFun (f8 55 (by decide)) 9))))
  exact ih x17 σ12 τ _ _ ls (by have h9 := tx17; omega) ⟨I18, I19, I20, I21, I22, I23, I24, I25, I26, I27, I28, I29, I30, I31, I32, I16, I33, I34, I35, I36, I37, I38, p39, p40, (by omega)⟩ hP hS (lv_sub hl [0, 1, 2, 3] rfl)
set_option maxHeartbeats 4000000 in
set_option maxRecDepth 100000 in
theorem law_case_5 {p : Program} {e : Env} {s : State} {m : MethodId} {below : List Frame} {meth : Method} {c : Code} (l : Launch) {b L : Nat} {xs : Nat → Int32} {D : va_G} {cI cL : ClassId} {ad zz : Nat → Nat} (C0 : lw_At p s m meth c b L xs) (hJ : jD ad) (hA : ∀ q, jA ad q → s.heap.size ≤ q) (hK : jK D cI cL s) (hZ : jZ zz (fun q : Nat => s.heap.size ≤ q) s s.heap) {x0 : Int32} (hx0 : 0 ≤ x0.toInt) (hxL : x0.toInt + 6 ≤ (L : Int)) (hL : L ≤ 384) {σ : Nat → Nat → Int32} {τ : Nat → Nat → Int64} {H : Heap} {locs : List Loc} (hS : va_S (fun q : Nat => s.heap.size ≤ q) s.heap H locs) {ls : Array Slot} (hAll : jAll σ τ) (hP : jH D cI cL ad σ τ H) (hl : lv_has ls 4 [(3, .int x0), (2, .ref (ad 55)), (1, .ref (ad 0)), (0, .ref b)]) (ih : ∀ (x1 : Int32) (σ : Nat → Nat → Int32) (τ : Nat → Nat → Int64) (H : Heap) (locs : List Loc) (ls : Array Slot), x1.toInt = x0.toInt + 6 → jAll σ τ → jH D cI cL ad σ τ H → va_S (fun q : Nat => s.heap.size ≤ q) s.heap H locs → lv_has ls 4 [(3, .int x1), (2, .ref (ad 55)), (1, .ref (ad 0)), (0, .ref b)] → W p l e room_1 s m #[Value.ref b] below meth c H locs 90 348600 (lw_Z below #[Value.ref b] s) (F0 m 18 ls [])) : W p l e room_1 s m #[Value.ref b] below meth c H locs 90 348600 (lw_Z below #[Value.ref b] s) (F0 m 381 ls []) := by
  obtain ⟨hx, hb, hr, hml, hown, hts0, hX, hbl, hlocks, hgv⟩ := C0
  have hts : ∀ w ∈ wsL_law, w.before #[Value.ref b] s = true := fun w h => hts0 w (wsL_law_in w h)
  have hbA : ¬ (fun q : Nat => s.heap.size ≤ q) b := Nat.not_le.mpr hbl
  have hown : s.vm.findClass RL = some m.cls := hown
  obtain ⟨hI2, hI9, hI12, hI16, hI18, hI22, hI31, hI38, hI43, hI47, hI50, hI101, hI102, hI103, hI104, hI105, hI106, hI107, hI109, hI110, hI111, hI119, hs_jKept, hs_jBook, ht0⟩ := hAll
  have hL9 : (L : Int) ≤ 384 := by omega
  refine lv_aload_n hx hb dL_law_381 rfl (lv_at hl 2 rfl) ?_
  refine jcallV (As := []) (rest := []) ⟨hx, hb, hml, hown, hts⟩ hK hP hA hS hZ (c_X11_order l D cI cL ad zz hJ σ τ hI9 hI16 hI47) cw_RL_36 (jc_0 cI cL ad σ τ) rfl ⟨Nat.le_of_ble_eq_true rfl, Nat.le_of_ble_eq_true rfl⟩ rfl rfl rfl hl.1 rfl (Nat.le_of_ble_eq_true rfl) dL_law_382 ⟨Nat.le_of_ble_eq_true rfl, Nat.le_of_ble_eq_true rfl⟩ (fun r2 σ1 τ1 H locs h1 hP hS => ?_)
  obtain ⟨rfl, f3, f4, f5, f6, I7, I8, I9, h1⟩ := h1
  refine lv_pop hx hb dL_law_385 rfl ?_
  refine lv_aload_n hx hb dL_law_386 rfl (lv_at hl 1 rfl) ?_
  have I10 : jI104 σ1 := jI104_fr (congrFun (f3 55 (by decide)) 10) (congrFun (f3 55 (by decide)) 12) (congrFun (f3 55 (by decide)) 13) (f3 62 (by decide)) (f3 67 (by decide)) hI104
  have I11 : jI105 σ1 := jI105_fr (congrFun (f3 55 (by decide)) 15) (f3 65 (by decide)) hI105
  have I12 : jI107 σ1 := jI107_fr (congrFun (f3 55 (by decide)) 12) (congrFun (f3 55 (by decide)) 47) (f3 80 (by decide)) hI107
  have p13 : jBook σ1 := jBook.fr (congrFun (f3 55 (by decide)) 47) (congrFun (f3 55 (by decide)) 10) (f3 81 (by decide)) hs_jBook
  refine jcallV (As := []) (rest := []) ⟨hx, hb, hml, hown, hts⟩ hK hP hA hS hZ (c_X12_order l D cI cL ad zz hJ σ1 τ I10 I11 I12 p13) cw_RL_40 (jc_55 cI cL ad σ1 τ) rfl ⟨Nat.le_of_ble_eq_true rfl, Nat.le_of_ble_eq_true rfl⟩ rfl rfl rfl hl.1 rfl (Nat.le_of_ble_eq_true rfl) dL_law_387 ⟨Nat.le_of_ble_eq_true rfl, Nat.le_of_ble_eq_true rfl⟩ (fun r15 σ14 τ14 H locs h14 hP hS => ?_)
  obtain ⟨rfl, f16, f17, I18, I19, I20, p21, h14⟩ := h14
  refine lv_pop hx hb dL_law_390 rfl ?_
  refine lv_goto (tgt := 1357) hx hb dL_law_391 (by decide) ?_
  obtain ⟨x22, ex22⟩ : ∃ y : Int32, y = x0 + 6 := ⟨_, rfl⟩
  have tx22 : x22.toInt = x0.toInt + 6 := (jadd ex22 rfl jz_6 (by omega) (by omega)).trans (by omega)
  refine lv_iinc (v := x22) (lv' := [(3, .int x22), (2, .ref (ad 55)), (1, .ref (ad 0)), (0, .ref b)]) hx hb dL_law_1357 hl (k := 0) rfl (by rw [ex22]; rfl) (by decide) rfl (fun ls hl => ?_)
  refine lv_goto (tgt := 18) hx hb dL_law_1360 (by decide) ?_
  have I23 : jI2 σ14 := jI2_fr ((congrFun (f16 2 (by decide)) 0).trans (congrFun (f3 2 (by decide)) 0)) ((congrFun (f16 2 (by decide)) 1).trans (congrFun (f3 2 (by decide)) 1)) ((congrFun (f16 2 (by decide)) 2).trans (congrFun (f3 2 (by decide)) 2)) ((congrFun (f16 2 (by decide)) 3).trans (congrFun (f3 2 (by decide)) 3)) ((f16 6 (by decide)).trans (f3 6 (by decide))) hI2
  have I24 : jI9 σ14 := jI9_fr (congrFun (f16 9 (by decide)) 0) (f16 10 (by decide)) (f16 11 (by decide)) I7
  have I25 : jI12 σ14 := jI12_fr ((congrFun (f16 12 (by decide)) 0).trans (congrFun (f3 12 (by decide)) 0)) ((f16 13 (by decide)).trans (f3 13 (by decide))) hI12
  have I26 : jI16 σ14 := jI16_fr (congrFun (f16 16 (by decide)) 0) (congrFun (f16 16 (by decide)) 1) (congrFun (f16 16 (by decide)) 2) (f16 17 (by decide)) I8
  have I27 : jI18 σ14 := jI18_fr ((congrFun (f16 18 (by decide)) 0).trans (congrFun (f3 18 (by decide)) 0)) ((f16 19 (by decide)).trans (f3 19 (by decide))) hI18
  have I28 : jI22 σ14 := jI22_fr ((congrFun (f16 22 (by decide)) 0).trans (congrFun (f3 22 (by decide)) 0)) ((f16 23 (by decide)).trans (f3 23 (by decide))) hI22
  have I29 : jI31 σ14 := jI31_fr ((congrFun (f16 31 (by decide)) 8).trans (congrFun (f3 31 (by decide)) 8)) ((f16 33 (by decide)).trans (f3 33 (by decide))) ((f16 36 (by decide)).trans (f3 36 (by decide))) hI31
  have I30 : jI38 σ14 := jI38_fr ((congrFun (f16 38 (by decide)) 0).trans (congrFun (f3 38 (by decide)) 0)) ((congrFun (f16 38 (by decide)) 1).trans (congrFun (f3 38 (by decide)) 1)) ((f16 39 (by decide)).trans (f3 39 (by decide))) hI38
  have I31 : jI43 σ14 := jI43_fr ((congrFun (f16 43 (by decide)) 8).trans (congrFun (f3 43 (by decide)) 8)) hI43
  have I32 : jI47 σ14 := jI47_fr (congrFun (f16 47 (by decide)) 0) (f16 49 (by decide)) I9
  have I33 : jI50 σ14 := jI50_fr ((f16 52 (by decide)).trans (f3 52 (by decide))) hI50
  have I34 : jI101 σ14 := jI101_fr ((f17 4 (by decide)).trans (congrFun (f3 55 (by decide)) 4)) ((f17 5 (by decide)).trans (congrFun (f3 55 (by decide)) 5)) ((f16 56 (by decide)).trans (f3 56 (by decide))) ((f16 57 (by decide)).trans (f3 57 (by decide))) ((f16 58 (by decide)).trans (f3 58 (by decide))) ((f16 59 (by decide)).trans (f3 59 (by decide))) hI101
  have I35 : jI102 σ14 := jI102_fr ((f17 6 (by decide)).trans (congrFun (f3 55 (by decide)) 6)) ((f16 60 (by decide)).trans (f3 60 (by decide))) ((f16 61 (by decide)).trans (f3 61 (by decide))) hI102
  have I36 : jI103 σ14 := jI103_fr ((f17 9 (by decide)).trans (congrFun (f3 55 (by decide)) 9)) hI103
  have I37 : jI106 σ14 := jI106_fr ((f17 32 (by decide)).trans (congrFun (f3 55 (by decide)) 32)) ((f16 70 (by decide)).trans (f3 70 (by decide))) ((f16 71 (by decide)).trans (f3 71 (by decide))) ((f16 72 (by decide)).trans (f3 72 (by decide))) hI106
  have I38 : jI109 σ14 := jI109_fr ((f17 50 (by decide)).trans (congrFun (f3 55 (by decide)) 50)) hI109
  have I39 : jI110 σ14 := jI110_fr ((f16 86 (by decide)).trans (f3 86 (by decide))) ((f16 87 (by decide)).trans (f3 87 (by decide))) hI110
  have I40 : jI111 σ14 := jI111_fr ((f16 79 (by decide)).trans (f3 79 (by decide))) hI111
  have I41 : jI119 σ14 := jI119_fr ((f16 68 (by decide)).trans (f3 68 (by decide))) hI119
  have p42 : jKept σ14 := jKept.fr ((f16 75 (by decide)).trans (f3 75 (by decide))) ((f16 76 (by decide)).trans (f3 76 (by decide))) ((f16 77 (by decide)).trans (f3 77 (by decide))) hs_jKept
  have z43 : (σ14 2 1).toInt = (σ 2 1).toInt := (congrArg Int32.toInt (show σ14 2 1 = (σ 2 1) from ((congrFun (f16 2 (by decide)) 1).trans (congrFun (f3 2 (by decide)) 1))))
  have z44 : (σ14 55 9).toInt = (σ 55 9).toInt := (congrArg Int32.toInt (show σ14 55 9 = (σ 55 9) from ((f17 9 (by decide)).trans (congrFun (f3 55 (by decide)) 9))))
  exact ih x22 σ14 τ _ _ ls (by have h9 := tx22; omega) ⟨I23, I24, I25, I26, I27, I28, I29, I30, I31, I32, I33, I34, I35, I36, I18, I19, I37, I20, I38, I39, I40, I41, p42, p21, (by omega)⟩ hP hS (lv_sub hl [0, 1, 2, 3] rfl)
set_option maxHeartbeats 4000000 in
set_option maxRecDepth 100000 in
theorem law_case_6 {p : Program} {e : Env} {s : State} {m : MethodId} {below : List Frame} {meth : Method} {c : Code} (l : Launch) {b L : Nat} {xs : Nat → Int32} {D : va_G} {cI cL : ClassId} {ad zz : Nat → Nat} (C0 : lw_At p s m meth c b L xs) (hJ : jD ad) (hA : ∀ q, jA ad q → s.heap.size ≤ q) (hK : jK D cI cL s) (hZ : jZ zz (fun q : Nat => s.heap.size ≤ q) s s.heap) {x0 : Int32} (hx0 : 0 ≤ x0.toInt) (hxL : x0.toInt + 6 ≤ (L : Int)) (hL : L ≤ 384) {σ : Nat → Nat → Int32} {τ : Nat → Nat → Int64} {H : Heap} {locs : List Loc} (hS : va_S (fun q : Nat => s.heap.size ≤ q) s.heap H locs) {ls : Array Slot} (hAll : jAll σ τ) (hP : jH D cI cL ad σ τ H) (hl : lv_has ls 4 [(3, .int x0), (2, .ref (ad 55)), (1, .ref (ad 0)), (0, .ref b)]) (ih : ∀ (x1 : Int32) (σ : Nat → Nat → Int32) (τ : Nat → Nat → Int64) (H : Heap) (locs : List Loc) (ls : Array Slot), x1.toInt = x0.toInt + 6 → jAll σ τ → jH D cI cL ad σ τ H → va_S (fun q : Nat => s.heap.size ≤ q) s.heap H locs → lv_has ls 4 [(3, .int x1), (2, .ref (ad 55)), (1, .ref (ad 0)), (0, .ref b)] → W p l e room_1 s m #[Value.ref b] below meth c H locs 90 348600 (lw_Z below #[Value.ref b] s) (F0 m 18 ls [])) : W p l e room_1 s m #[Value.ref b] below meth c H locs 90 348600 (lw_Z below #[Value.ref b] s) (F0 m 394 ls []) := by
  obtain ⟨hx, hb, hr, hml, hown, hts0, hX, hbl, hlocks, hgv⟩ := C0
  have hts : ∀ w ∈ wsL_law, w.before #[Value.ref b] s = true := fun w h => hts0 w (wsL_law_in w h)
  have hbA : ¬ (fun q : Nat => s.heap.size ≤ q) b := Nat.not_le.mpr hbl
  have hown : s.vm.findClass RL = some m.cls := hown
  obtain ⟨hI2, hI9, hI12, hI16, hI18, hI22, hI31, hI38, hI43, hI47, hI50, hI101, hI102, hI103, hI104, hI105, hI106, hI107, hI109, hI110, hI111, hI119, hs_jKept, hs_jBook, ht0⟩ := hAll
  have hL9 : (L : Int) ≤ 384 := by omega
  refine lv_aload_n hx hb dL_law_394 rfl (lv_at hl 2 rfl) ?_
  refine lv_aload_n hx hb dL_law_395 rfl (lv_at hl 3 rfl) ?_
  refine lv_iload_n hx hb dL_law_396 rfl (lv_at hl 0 rfl) ?_
  refine lv_iconst (v := 1) hx hb dL_law_397 (by decide) ?_
  have g1 := jrg (rfl : x0.toInt = x0.toInt)
  refine lv_iadd hx hb dL_law_398 ?_
  refine lv_topi (fun x2 ex2 => ?_)
  have tx2 : x2.toInt = x0.toInt + 1 := (jadd ex2 rfl jz_1 (by omega) (by omega)).trans (by omega)
  refine va_sld hx hb hX hbl hbA hS (jin tx2 (by omega) (by omega)) dL_law_399 ?_
  have g3 := jrg (rfl : (xs x2.toNatClampNeg).toInt = (xs x2.toNatClampNeg).toInt)
  refine jcallV (As := [.int (xs x2.toNatClampNeg)]) (rest := []) ⟨hx, hb, hml, hown, hts⟩ hK hP hA hS hZ (c_X11_text l D cI cL ad zz hJ σ τ (xs x2.toNatClampNeg) ((xs x2.toNatClampNeg).toInt) rfl hI9 hI12 hI18 hI22) cw_RL_41 (jc_0 cI cL ad σ τ) rfl ⟨Nat.le_of_ble_eq_true rfl, Nat.le_of_ble_eq_true rfl⟩ rfl rfl rfl hl.1 rfl (Nat.le_of_ble_eq_true rfl) dL_law_400 ⟨Nat.le_of_ble_eq_true rfl, Nat.le_of_ble_eq_true rfl⟩ (fun r5 σ4 τ4 H locs h4 hP hS => ?_)
  obtain ⟨rfl, f6, f7, f8, f9, f10, f11, I12, I13, I14, I15, h4⟩ := h4
  refine lv_pop hx hb dL_law_403 rfl ?_
  refine lv_aload_n hx hb dL_law_404 rfl (lv_at hl 1 rfl) ?_
  refine lv_aload_n hx hb dL_law_405 rfl (lv_at hl 3 rfl) ?_
  refine lv_iload_n hx hb dL_law_406 rfl (lv_at hl 0 rfl) ?_
  refine lv_iconst (v := 1) hx hb dL_law_407 (by decide) ?_
  refine lv_iadd hx hb dL_law_408 ?_
  refine jtopr ex2.symm ?_
  refine va_sld hx hb hX hbl hbA hS (jin tx2 (by omega) (by omega)) dL_law_409 ?_
  have I16 : jI105 σ4 := jI105_fr (congrFun (f6 55 (by decide)) 15) (f6 65 (by decide)) hI105
  refine jcallV (As := [.int (xs x2.toNatClampNeg)]) (rest := []) ⟨hx, hb, hml, hown, hts⟩ hK hP hA hS hZ (c_X12_text l D cI cL ad zz hJ σ4 τ (xs x2.toNatClampNeg) ((xs x2.toNatClampNeg).toInt) rfl I16) cw_RL_44 (jc_55 cI cL ad σ4 τ) rfl ⟨Nat.le_of_ble_eq_true rfl, Nat.le_of_ble_eq_true rfl⟩ rfl rfl rfl hl.1 rfl (Nat.le_of_ble_eq_true rfl) dL_law_410 ⟨Nat.le_of_ble_eq_true rfl, Nat.le_of_ble_eq_true rfl⟩ (fun r18 σ17 τ17 H locs h17 hP hS => ?_)
  obtain ⟨rfl, f19, f20, I21, h17⟩ := h17
  refine lv_pop hx hb dL_law_413 rfl ?_
  refine lv_goto (tgt := 1357) hx hb dL_law_414 (by decide) ?_
  obtain ⟨x22, ex22⟩ : ∃ y : Int32, y = x0 + 6 := ⟨_, rfl⟩
  have tx22 : x22.toInt = x0.toInt + 6 := (jadd ex22 rfl jz_6 (by omega) (by omega)).trans (by omega)
  refine lv_iinc (v := x22) (lv' := [(3, .int x22), (2, .ref (ad 55)), (1, .ref (ad 0)), (0, .ref b)]) hx hb dL_law_1357 hl (k := 0) rfl (by rw [ex22]; rfl) (by decide) rfl (fun ls hl => ?_)
  refine lv_goto (tgt := 18) hx hb dL_law_1360 (by decide) ?_
  have I23 : jI2 σ17 := jI2_fr ((congrFun (f19 2 (by decide)) 0).trans (congrFun (f6 2 (by decide)) 0)) ((congrFun (f19 2 (by decide)) 1).trans (congrFun (f6 2 (by decide)) 1)) ((congrFun (f19 2 (by decide)) 2).trans (congrFun (f6 2 (by decide)) 2)) ((congrFun (f19 2 (by decide)) 3).trans (congrFun (f6 2 (by decide)) 3)) ((f19 6 (by decide)).trans (f6 6 (by decide))) hI2
  have I24 : jI9 σ17 := jI9_fr (congrFun (f19 9 (by decide)) 0) (f19 10 (by decide)) (f19 11 (by decide)) I12
  have I25 : jI12 σ17 := jI12_fr (congrFun (f19 12 (by decide)) 0) (f19 13 (by decide)) I13
  have I26 : jI16 σ17 := jI16_fr ((congrFun (f19 16 (by decide)) 0).trans (congrFun (f6 16 (by decide)) 0)) ((congrFun (f19 16 (by decide)) 1).trans (congrFun (f6 16 (by decide)) 1)) ((congrFun (f19 16 (by decide)) 2).trans (congrFun (f6 16 (by decide)) 2)) ((f19 17 (by decide)).trans (f6 17 (by decide))) hI16
  have I27 : jI18 σ17 := jI18_fr (congrFun (f19 18 (by decide)) 0) (f19 19 (by decide)) I14
  have I28 : jI22 σ17 := jI22_fr (congrFun (f19 22 (by decide)) 0) (f19 23 (by decide)) I15
  have I29 : jI31 σ17 := jI31_fr ((congrFun (f19 31 (by decide)) 8).trans (congrFun (f6 31 (by decide)) 8)) ((f19 33 (by decide)).trans (f6 33 (by decide))) ((f19 36 (by decide)).trans (f6 36 (by decide))) hI31
  have I30 : jI38 σ17 := jI38_fr ((congrFun (f19 38 (by decide)) 0).trans (congrFun (f6 38 (by decide)) 0)) ((congrFun (f19 38 (by decide)) 1).trans (congrFun (f6 38 (by decide)) 1)) ((f19 39 (by decide)).trans (f6 39 (by decide))) hI38
  have I31 : jI43 σ17 := jI43_fr ((congrFun (f19 43 (by decide)) 8).trans (congrFun (f6 43 (by decide)) 8)) hI43
  have I32 : jI47 σ17 := jI47_fr ((congrFun (f19 47 (by decide)) 0).trans (congrFun (f6 47 (by decide)) 0)) ((f19 49 (by decide)).trans (f6 49 (by decide))) hI47
  have I33 : jI50 σ17 := jI50_fr ((f19 52 (by decide)).trans (f6 52 (by decide))) hI50
  have I34 : jI101 σ17 := jI101_fr ((f20 4 (by decide)).trans (congrFun (f6 55 (by decide)) 4)) ((f20 5 (by decide)).trans (congrFun (f6 55 (by decide)) 5)) ((f19 56 (by decide)).trans (f6 56 (by decide))) ((f19 57 (by decide)).trans (f6 57 (by decide))) ((f19 58 (by decide)).trans (f6 58 (by decide))) ((f19 59 (by decide)).trans (f6 59 (by decide))) hI101
  have I35 : jI102 σ17 := jI102_fr ((f20 6 (by decide)).trans (congrFun (f6 55 (by decide)) 6)) ((f19 60 (by decide)).trans (f6 60 (by decide))) ((f19 61 (by decide)).trans (f6 61 (by decide))) hI102
  have I36 : jI103 σ17 := jI103_fr ((f20 9 (by decide)).trans (congrFun (f6 55 (by decide)) 9)) hI103
  have I37 : jI104 σ17 := jI104_fr ((f20 10 (by decide)).trans (congrFun (f6 55 (by decide)) 10)) ((f20 12 (by decide)).trans (congrFun (f6 55 (by decide)) 12)) ((f20 13 (by decide)).trans (congrFun (f6 55 (by decide)) 13)) ((f19 62 (by decide)).trans (f6 62 (by decide))) ((f19 67 (by decide)).trans (f6 67 (by decide))) hI104
  have I38 : jI106 σ17 := jI106_fr ((f20 32 (by decide)).trans (congrFun (f6 55 (by decide)) 32)) ((f19 70 (by decide)).trans (f6 70 (by decide))) ((f19 71 (by decide)).trans (f6 71 (by decide))) ((f19 72 (by decide)).trans (f6 72 (by decide))) hI106
  have I39 : jI107 σ17 := jI107_fr ((f20 12 (by decide)).trans (congrFun (f6 55 (by decide)) 12)) ((f20 47 (by decide)).trans (congrFun (f6 55 (by decide)) 47)) ((f19 80 (by decide)).trans (f6 80 (by decide))) hI107
  have I40 : jI109 σ17 := jI109_fr ((f20 50 (by decide)).trans (congrFun (f6 55 (by decide)) 50)) hI109
  have I41 : jI110 σ17 := jI110_fr ((f19 86 (by decide)).trans (f6 86 (by decide))) ((f19 87 (by decide)).trans (f6 87 (by decide))) hI110
  have I42 : jI111 σ17 := jI111_fr ((f19 79 (by decide)).trans (f6 79 (by decide))) hI111
  have I43 : jI119 σ17 := jI119_fr ((f19 68 (by decide)).trans (f6 68 (by decide))) hI119
  have p44 : jKept σ17 := jKept.fr ((f19 75 (by decide)).trans (f6 75 (by decide))) ((f19 76 (by decide)).trans (f6 76 (by decide))) ((f19 77 (by decide)).trans (f6 77 (by decide))) hs_jKept
  have p45 : jBook σ17 := jBook.fr ((f20 47 (by decide)).trans (congrFun (f6 55 (by decide)) 47)) ((f20 10 (by decide)).trans (congrFun (f6 55 (by decide)) 10)) ((f19 81 (by decide)).trans (f6 81 (by decide))) hs_jBook
  have z46 : (σ17 2 1).toInt = (σ 2 1).toInt := (congrArg Int32.toInt (show σ17 2 1 = (σ 2 1) from ((congrFun (f19 2 (by decide)) 1).trans (congrFun (f6 2 (by decide)) 1))))
  have z47 : (σ17 55 9).toInt = (σ 55 9).toInt := (congrArg Int32.toInt (show σ17 55 9 = (σ 55 9) from ((f20 9 (by decide)).trans (congrFun (f6 55 (by decide)) 9))))
  exact ih x22 σ17 τ _ _ ls (by have h9 := tx22; omega) ⟨I23, I24, I25, I26, I27, I28, I29, I30, I31, I32, I33, I34, I35, I36, I37, I21, I38, I39, I40, I41, I42, I43, p44, p45, (by omega)⟩ hP hS (lv_sub hl [0, 1, 2, 3] rfl)
set_option maxHeartbeats 4000000 in
set_option maxRecDepth 100000 in
theorem law_case_7 {p : Program} {e : Env} {s : State} {m : MethodId} {below : List Frame} {meth : Method} {c : Code} (l : Launch) {b L : Nat} {xs : Nat → Int32} {D : va_G} {cI cL : ClassId} {ad zz : Nat → Nat} (C0 : lw_At p s m meth c b L xs) (hJ : jD ad) (hA : ∀ q, jA ad q → s.heap.size ≤ q) (hK : jK D cI cL s) (hZ : jZ zz (fun q : Nat => s.heap.size ≤ q) s s.heap) {x0 : Int32} (hx0 : 0 ≤ x0.toInt) (hxL : x0.toInt + 6 ≤ (L : Int)) (hL : L ≤ 384) {σ : Nat → Nat → Int32} {τ : Nat → Nat → Int64} {H : Heap} {locs : List Loc} (hS : va_S (fun q : Nat => s.heap.size ≤ q) s.heap H locs) {ls : Array Slot} (hAll : jAll σ τ) (hP : jH D cI cL ad σ τ H) (hl : lv_has ls 4 [(3, .int x0), (2, .ref (ad 55)), (1, .ref (ad 0)), (0, .ref b)]) (ih : ∀ (x1 : Int32) (σ : Nat → Nat → Int32) (τ : Nat → Nat → Int64) (H : Heap) (locs : List Loc) (ls : Array Slot), x1.toInt = x0.toInt + 6 → jAll σ τ → jH D cI cL ad σ τ H → va_S (fun q : Nat => s.heap.size ≤ q) s.heap H locs → lv_has ls 4 [(3, .int x1), (2, .ref (ad 55)), (1, .ref (ad 0)), (0, .ref b)] → W p l e room_1 s m #[Value.ref b] below meth c H locs 90 348600 (lw_Z below #[Value.ref b] s) (F0 m 18 ls [])) : W p l e room_1 s m #[Value.ref b] below meth c H locs 90 348600 (lw_Z below #[Value.ref b] s) (F0 m 417 ls []) := by
  obtain ⟨hx, hb, hr, hml, hown, hts0, hX, hbl, hlocks, hgv⟩ := C0
  have hts : ∀ w ∈ wsL_law, w.before #[Value.ref b] s = true := fun w h => hts0 w (wsL_law_in w h)
  have hbA : ¬ (fun q : Nat => s.heap.size ≤ q) b := Nat.not_le.mpr hbl
  have hown : s.vm.findClass RL = some m.cls := hown
  obtain ⟨hI2, hI9, hI12, hI16, hI18, hI22, hI31, hI38, hI43, hI47, hI50, hI101, hI102, hI103, hI104, hI105, hI106, hI107, hI109, hI110, hI111, hI119, hs_jKept, hs_jBook, ht0⟩ := hAll
  have hL9 : (L : Int) ≤ 384 := by omega
  refine lv_aload_n hx hb dL_law_417 rfl (lv_at hl 2 rfl) ?_
  refine lv_aload_n hx hb dL_law_418 rfl (lv_at hl 3 rfl) ?_
  refine lv_iload_n hx hb dL_law_419 rfl (lv_at hl 0 rfl) ?_
  refine lv_iconst (v := 1) hx hb dL_law_420 (by decide) ?_
  have g1 := jrg (rfl : x0.toInt = x0.toInt)
  refine lv_iadd hx hb dL_law_421 ?_
  refine lv_topi (fun x2 ex2 => ?_)
  have tx2 : x2.toInt = x0.toInt + 1 := (jadd ex2 rfl jz_1 (by omega) (by omega)).trans (by omega)
  refine va_sld hx hb hX hbl hbA hS (jin tx2 (by omega) (by omega)) dL_law_422 ?_
  have g3 := jrg (rfl : (xs x2.toNatClampNeg).toInt = (xs x2.toNatClampNeg).toInt)
  refine jcallV (As := [.int (xs x2.toNatClampNeg)]) (rest := []) ⟨hx, hb, hml, hown, hts⟩ hK hP hA hS hZ (c_X11_of l D cI cL ad zz hJ σ τ (xs x2.toNatClampNeg) ((xs x2.toNatClampNeg).toInt) rfl hI16) cw_RL_45 (jc_0 cI cL ad σ τ) rfl ⟨Nat.le_of_ble_eq_true rfl, Nat.le_of_ble_eq_true rfl⟩ rfl rfl rfl hl.1 rfl (Nat.le_of_ble_eq_true rfl) dL_law_423 ⟨Nat.le_of_ble_eq_true rfl, Nat.le_of_ble_eq_true rfl⟩ (fun r5 σ4 τ4 H locs h4 hP hS => ?_)
  obtain ⟨⟨rfl, rfl⟩, h4⟩ := h4
  refine lv_pop hx hb dL_law_426 rfl ?_
  refine lv_aload_n hx hb dL_law_427 rfl (lv_at hl 1 rfl) ?_
  refine lv_aload_n hx hb dL_law_428 rfl (lv_at hl 3 rfl) ?_
  refine lv_iload_n hx hb dL_law_429 rfl (lv_at hl 0 rfl) ?_
  refine lv_iconst (v := 1) hx hb dL_law_430 (by decide) ?_
  refine lv_iadd hx hb dL_law_431 ?_
  refine jtopr ex2.symm ?_
  refine va_sld hx hb hX hbl hbA hS (jin tx2 (by omega) (by omega)) dL_law_432 ?_
  refine jcallV (As := [.int (xs x2.toNatClampNeg)]) (rest := []) ⟨hx, hb, hml, hown, hts⟩ hK hP hA hS hZ (c_X12_of l D cI cL ad zz hJ σ τ (xs x2.toNatClampNeg) ((xs x2.toNatClampNeg).toInt) rfl hI104 hI107) cw_RL_48 (jc_55 cI cL ad σ τ) rfl ⟨Nat.le_of_ble_eq_true rfl, Nat.le_of_ble_eq_true rfl⟩ rfl rfl rfl hl.1 rfl (Nat.le_of_ble_eq_true rfl) dL_law_433 ⟨Nat.le_of_ble_eq_true rfl, Nat.le_of_ble_eq_true rfl⟩ (fun r7 σ6 τ6 H locs h6 hP hS => ?_)
  obtain ⟨⟨rfl, rfl⟩, h6⟩ := h6
  refine lv_pop hx hb dL_law_436 rfl ?_
  refine lv_goto (tgt := 1357) hx hb dL_law_437 (by decide) ?_
  obtain ⟨x8, ex8⟩ : ∃ y : Int32, y = x0 + 6 := ⟨_, rfl⟩
  have tx8 : x8.toInt = x0.toInt + 6 := (jadd ex8 rfl jz_6 (by omega) (by omega)).trans (by omega)
  refine lv_iinc (v := x8) (lv' := [(3, .int x8), (2, .ref (ad 55)), (1, .ref (ad 0)), (0, .ref b)]) hx hb dL_law_1357 hl (k := 0) rfl (by rw [ex8]; rfl) (by decide) rfl (fun ls hl => ?_)
  refine lv_goto (tgt := 18) hx hb dL_law_1360 (by decide) ?_
  exact ih x8 σ τ _ _ ls (by have h9 := tx8; omega) ⟨hI2, hI9, hI12, hI16, hI18, hI22, hI31, hI38, hI43, hI47, hI50, hI101, hI102, hI103, hI104, hI105, hI106, hI107, hI109, hI110, hI111, hI119, hs_jKept, hs_jBook, (by omega)⟩ hP hS (lv_sub hl [0, 1, 2, 3] rfl)
set_option maxHeartbeats 4000000 in
set_option maxRecDepth 100000 in
theorem law_case_8 {p : Program} {e : Env} {s : State} {m : MethodId} {below : List Frame} {meth : Method} {c : Code} (l : Launch) {b L : Nat} {xs : Nat → Int32} {D : va_G} {cI cL : ClassId} {ad zz : Nat → Nat} (C0 : lw_At p s m meth c b L xs) (hJ : jD ad) (hA : ∀ q, jA ad q → s.heap.size ≤ q) (hK : jK D cI cL s) (hZ : jZ zz (fun q : Nat => s.heap.size ≤ q) s s.heap) {x0 : Int32} (hx0 : 0 ≤ x0.toInt) (hxL : x0.toInt + 6 ≤ (L : Int)) (hL : L ≤ 384) {σ : Nat → Nat → Int32} {τ : Nat → Nat → Int64} {H : Heap} {locs : List Loc} (hS : va_S (fun q : Nat => s.heap.size ≤ q) s.heap H locs) {ls : Array Slot} (hAll : jAll σ τ) (hP : jH D cI cL ad σ τ H) (hl : lv_has ls 4 [(3, .int x0), (2, .ref (ad 55)), (1, .ref (ad 0)), (0, .ref b)]) (ih : ∀ (x1 : Int32) (σ : Nat → Nat → Int32) (τ : Nat → Nat → Int64) (H : Heap) (locs : List Loc) (ls : Array Slot), x1.toInt = x0.toInt + 6 → jAll σ τ → jH D cI cL ad σ τ H → va_S (fun q : Nat => s.heap.size ≤ q) s.heap H locs → lv_has ls 4 [(3, .int x1), (2, .ref (ad 55)), (1, .ref (ad 0)), (0, .ref b)] → W p l e room_1 s m #[Value.ref b] below meth c H locs 90 348600 (lw_Z below #[Value.ref b] s) (F0 m 18 ls [])) : W p l e room_1 s m #[Value.ref b] below meth c H locs 90 348600 (lw_Z below #[Value.ref b] s) (F0 m 440 ls []) := by
  obtain ⟨hx, hb, hr, hml, hown, hts0, hX, hbl, hlocks, hgv⟩ := C0
  have hts : ∀ w ∈ wsL_law, w.before #[Value.ref b] s = true := fun w h => hts0 w (wsL_law_in w h)
  have hbA : ¬ (fun q : Nat => s.heap.size ≤ q) b := Nat.not_le.mpr hbl
  have hown : s.vm.findClass RL = some m.cls := hown
  obtain ⟨hI2, hI9, hI12, hI16, hI18, hI22, hI31, hI38, hI43, hI47, hI50, hI101, hI102, hI103, hI104, hI105, hI106, hI107, hI109, hI110, hI111, hI119, hs_jKept, hs_jBook, ht0⟩ := hAll
  have hL9 : (L : Int) ≤ 384 := by omega
  refine lv_aload_n hx hb dL_law_440 rfl (lv_at hl 2 rfl) ?_
  refine lv_aload_n hx hb dL_law_441 rfl (lv_at hl 3 rfl) ?_
  refine lv_iload_n hx hb dL_law_442 rfl (lv_at hl 0 rfl) ?_
  refine lv_iconst (v := 1) hx hb dL_law_443 (by decide) ?_
  have g1 := jrg (rfl : x0.toInt = x0.toInt)
  refine lv_iadd hx hb dL_law_444 ?_
  refine lv_topi (fun x2 ex2 => ?_)
  have tx2 : x2.toInt = x0.toInt + 1 := (jadd ex2 rfl jz_1 (by omega) (by omega)).trans (by omega)
  refine va_sld hx hb hX hbl hbA hS (jin tx2 (by omega) (by omega)) dL_law_445 ?_
  have g3 := jrg (rfl : (xs x2.toNatClampNeg).toInt = (xs x2.toNatClampNeg).toInt)
  refine lv_aload_n hx hb dL_law_446 rfl (lv_at hl 3 rfl) ?_
  refine lv_iload_n hx hb dL_law_447 rfl (lv_at hl 0 rfl) ?_
  refine lv_iconst (v := 2) hx hb dL_law_448 (by decide) ?_
  refine lv_iadd hx hb dL_law_449 ?_
  refine lv_topi (fun x4 ex4 => ?_)
  have tx4 : x4.toInt = x0.toInt + 2 := (jadd ex4 rfl jz_2 (by omega) (by omega)).trans (by omega)
  refine va_sld hx hb hX hbl hbA hS (jin tx4 (by omega) (by omega)) dL_law_450 ?_
  have g5 := jrg (rfl : (xs x4.toNatClampNeg).toInt = (xs x4.toNatClampNeg).toInt)
  refine lv_aload_n hx hb dL_law_451 rfl (lv_at hl 3 rfl) ?_
  refine lv_iload_n hx hb dL_law_452 rfl (lv_at hl 0 rfl) ?_
  refine lv_iconst (v := 3) hx hb dL_law_453 (by decide) ?_
  refine lv_iadd hx hb dL_law_454 ?_
  refine lv_topi (fun x6 ex6 => ?_)
  have tx6 : x6.toInt = x0.toInt + 3 := (jadd ex6 rfl jz_3 (by omega) (by omega)).trans (by omega)
  refine va_sld hx hb hX hbl hbA hS (jin tx6 (by omega) (by omega)) dL_law_455 ?_
  have g7 := jrg (rfl : (xs x6.toNatClampNeg).toInt = (xs x6.toNatClampNeg).toInt)
  refine jcallV (As := [.int (xs x2.toNatClampNeg), .int (xs x4.toNatClampNeg), .int (xs x6.toNatClampNeg)]) (rest := []) ⟨hx, hb, hml, hown, hts⟩ hK hP hA hS hZ (c_X11_over l D cI cL ad zz hJ σ τ (xs x2.toNatClampNeg) ((xs x2.toNatClampNeg).toInt) rfl (xs x4.toNatClampNeg) ((xs x4.toNatClampNeg).toInt) rfl (xs x6.toNatClampNeg) ((xs x6.toNatClampNeg).toInt) rfl hI2 hI22) cw_RL_49 (jc_0 cI cL ad σ τ) rfl ⟨Nat.le_of_ble_eq_true rfl, Nat.le_of_ble_eq_true rfl⟩ rfl rfl rfl hl.1 rfl (Nat.le_of_ble_eq_true rfl) dL_law_456 ⟨Nat.le_of_ble_eq_true rfl, Nat.le_of_ble_eq_true rfl⟩ (fun r9 σ8 τ8 H locs h8 hP hS => ?_)
  obtain ⟨rfl, f10, h8⟩ := h8
  refine lv_pop hx hb dL_law_459 rfl ?_
  refine lv_aload_n hx hb dL_law_460 rfl (lv_at hl 1 rfl) ?_
  refine lv_aload_n hx hb dL_law_461 rfl (lv_at hl 3 rfl) ?_
  refine lv_iload_n hx hb dL_law_462 rfl (lv_at hl 0 rfl) ?_
  refine lv_iconst (v := 1) hx hb dL_law_463 (by decide) ?_
  refine lv_iadd hx hb dL_law_464 ?_
  refine jtopr ex2.symm ?_
  refine va_sld hx hb hX hbl hbA hS (jin tx2 (by omega) (by omega)) dL_law_465 ?_
  refine lv_aload_n hx hb dL_law_466 rfl (lv_at hl 3 rfl) ?_
  refine lv_iload_n hx hb dL_law_467 rfl (lv_at hl 0 rfl) ?_
  refine lv_iconst (v := 2) hx hb dL_law_468 (by decide) ?_
  refine lv_iadd hx hb dL_law_469 ?_
  refine jtopr ex4.symm ?_
  refine va_sld hx hb hX hbl hbA hS (jin tx4 (by omega) (by omega)) dL_law_470 ?_
  refine lv_aload_n hx hb dL_law_471 rfl (lv_at hl 3 rfl) ?_
  refine lv_iload_n hx hb dL_law_472 rfl (lv_at hl 0 rfl) ?_
  refine lv_iconst (v := 3) hx hb dL_law_473 (by decide) ?_
  refine lv_iadd hx hb dL_law_474 ?_
  refine jtopr ex6.symm ?_
  refine va_sld hx hb hX hbl hbA hS (jin tx6 (by omega) (by omega)) dL_law_475 ?_
  have I11 : jI101 σ8 := jI101_fr (congrFun (f10 55 (by decide)) 4) (congrFun (f10 55 (by decide)) 5) (f10 56 (by decide)) (f10 57 (by decide)) (f10 58 (by decide)) (f10 59 (by decide)) hI101
  have I12 : jI102 σ8 := jI102_fr (congrFun (f10 55 (by decide)) 6) (f10 60 (by decide)) (f10 61 (by decide)) hI102
  have I13 : jI103 σ8 := jI103_fr (congrFun (f10 55 (by decide)) 9) hI103
  have I14 : jI104 σ8 := jI104_fr (congrFun (f10 55 (by decide)) 10) (congrFun (f10 55 (by decide)) 12) (congrFun (f10 55 (by decide)) 13) (f10 62 (by decide)) (f10 67 (by decide)) hI104
  have I15 : jI105 σ8 := jI105_fr (congrFun (f10 55 (by decide)) 15) (f10 65 (by decide)) hI105
  have I16 : jI119 σ8 := jI119_fr (f10 68 (by decide)) hI119
  refine jcallV (As := [.int (xs x2.toNatClampNeg), .int (xs x4.toNatClampNeg), .int (xs x6.toNatClampNeg)]) (rest := []) ⟨hx, hb, hml, hown, hts⟩ hK hP hA hS hZ (c_X12_over l D cI cL ad zz hJ σ8 τ (xs x2.toNatClampNeg) ((xs x2.toNatClampNeg).toInt) rfl (xs x4.toNatClampNeg) ((xs x4.toNatClampNeg).toInt) rfl (xs x6.toNatClampNeg) ((xs x6.toNatClampNeg).toInt) rfl I11 I12 I13 I14 I15 I16) cw_RL_52 (jc_55 cI cL ad σ8 τ) rfl ⟨Nat.le_of_ble_eq_true rfl, Nat.le_of_ble_eq_true rfl⟩ rfl rfl rfl hl.1 rfl (Nat.le_of_ble_eq_true rfl) dL_law_476 ⟨Nat.le_of_ble_eq_true rfl, Nat.le_of_ble_eq_true rfl⟩ (fun r18 σ17 τ17 H locs h17 hP hS => ?_)
  obtain ⟨rfl, f19, f20, I21, h17⟩ := h17
  refine lv_pop hx hb dL_law_479 rfl ?_
  refine lv_goto (tgt := 1357) hx hb dL_law_480 (by decide) ?_
  obtain ⟨x22, ex22⟩ : ∃ y : Int32, y = x0 + 6 := ⟨_, rfl⟩
  have tx22 : x22.toInt = x0.toInt + 6 := (jadd ex22 rfl jz_6 (by omega) (by omega)).trans (by omega)
  refine lv_iinc (v := x22) (lv' := [(3, .int x22), (2, .ref (ad 55)), (1, .ref (ad 0)), (0, .ref b)]) hx hb dL_law_1357 hl (k := 0) rfl (by rw [ex22]; rfl) (by decide) rfl (fun ls hl => ?_)
  refine lv_goto (tgt := 18) hx hb dL_law_1360 (by decide) ?_
  have I23 : jI2 σ17 := jI2_fr ((congrFun (f19 2 (by decide)) 0).trans (congrFun (f10 2 (by decide)) 0)) ((congrFun (f19 2 (by decide)) 1).trans (congrFun (f10 2 (by decide)) 1)) ((congrFun (f19 2 (by decide)) 2).trans (congrFun (f10 2 (by decide)) 2)) ((congrFun (f19 2 (by decide)) 3).trans (congrFun (f10 2 (by decide)) 3)) ((f19 6 (by decide)).trans (f10 6 (by decide))) hI2
  have I24 : jI9 σ17 := jI9_fr ((congrFun (f19 9 (by decide)) 0).trans (congrFun (f10 9 (by decide)) 0)) ((f19 10 (by decide)).trans (f10 10 (by decide))) ((f19 11 (by decide)).trans (f10 11 (by decide))) hI9
  have I25 : jI12 σ17 := jI12_fr ((congrFun (f19 12 (by decide)) 0).trans (congrFun (f10 12 (by decide)) 0)) ((f19 13 (by decide)).trans (f10 13 (by decide))) hI12
  have I26 : jI16 σ17 := jI16_fr ((congrFun (f19 16 (by decide)) 0).trans (congrFun (f10 16 (by decide)) 0)) ((congrFun (f19 16 (by decide)) 1).trans (congrFun (f10 16 (by decide)) 1)) ((congrFun (f19 16 (by decide)) 2).trans (congrFun (f10 16 (by decide)) 2)) ((f19 17 (by decide)).trans (f10 17 (by decide))) hI16
  have I27 : jI18 σ17 := jI18_fr ((congrFun (f19 18 (by decide)) 0).trans (congrFun (f10 18 (by decide)) 0)) ((f19 19 (by decide)).trans (f10 19 (by decide))) hI18
  have I28 : jI22 σ17 := jI22_fr ((congrFun (f19 22 (by decide)) 0).trans (congrFun (f10 22 (by decide)) 0)) ((f19 23 (by decide)).trans (f10 23 (by decide))) hI22
  have I29 : jI31 σ17 := jI31_fr ((congrFun (f19 31 (by decide)) 8).trans (congrFun (f10 31 (by decide)) 8)) ((f19 33 (by decide)).trans (f10 33 (by decide))) ((f19 36 (by decide)).trans (f10 36 (by decide))) hI31
  have I30 : jI38 σ17 := jI38_fr ((congrFun (f19 38 (by decide)) 0).trans (congrFun (f10 38 (by decide)) 0)) ((congrFun (f19 38 (by decide)) 1).trans (congrFun (f10 38 (by decide)) 1)) ((f19 39 (by decide)).trans (f10 39 (by decide))) hI38
  have I31 : jI43 σ17 := jI43_fr ((congrFun (f19 43 (by decide)) 8).trans (congrFun (f10 43 (by decide)) 8)) hI43
  have I32 : jI47 σ17 := jI47_fr ((congrFun (f19 47 (by decide)) 0).trans (congrFun (f10 47 (by decide)) 0)) ((f19 49 (by decide)).trans (f10 49 (by decide))) hI47
  have I33 : jI50 σ17 := jI50_fr ((f19 52 (by decide)).trans (f10 52 (by decide))) hI50
  have I34 : jI101 σ17 := jI101_fr (f20 4 (by decide)) (f20 5 (by decide)) (f19 56 (by decide)) (f19 57 (by decide)) (f19 58 (by decide)) (f19 59 (by decide)) I11
  have I35 : jI102 σ17 := jI102_fr (f20 6 (by decide)) (f19 60 (by decide)) (f19 61 (by decide)) I12
  have I36 : jI103 σ17 := jI103_fr (f20 9 (by decide)) I13
  have I37 : jI104 σ17 := jI104_fr (f20 10 (by decide)) (f20 12 (by decide)) (f20 13 (by decide)) (f19 62 (by decide)) (f19 67 (by decide)) I14
  have I38 : jI105 σ17 := jI105_fr (f20 15 (by decide)) (f19 65 (by decide)) I15
  have I39 : jI106 σ17 := jI106_fr ((f20 32 (by decide)).trans (congrFun (f10 55 (by decide)) 32)) ((f19 70 (by decide)).trans (f10 70 (by decide))) ((f19 71 (by decide)).trans (f10 71 (by decide))) ((f19 72 (by decide)).trans (f10 72 (by decide))) hI106
  have I40 : jI107 σ17 := jI107_fr ((f20 12 (by decide)).trans (congrFun (f10 55 (by decide)) 12)) ((f20 47 (by decide)).trans (congrFun (f10 55 (by decide)) 47)) ((f19 80 (by decide)).trans (f10 80 (by decide))) hI107
  have I41 : jI109 σ17 := jI109_fr ((f20 50 (by decide)).trans (congrFun (f10 55 (by decide)) 50)) hI109
  have I42 : jI110 σ17 := jI110_fr ((f19 86 (by decide)).trans (f10 86 (by decide))) ((f19 87 (by decide)).trans (f10 87 (by decide))) hI110
  have I43 : jI111 σ17 := jI111_fr ((f19 79 (by decide)).trans (f10 79 (by decide))) hI111
  have p44 : jKept σ17 := jKept.fr ((f19 75 (by decide)).trans (f10 75 (by decide))) ((f19 76 (by decide)).trans (f10 76 (by decide))) ((f19 77 (by decide)).trans (f10 77 (by decide))) hs_jKept
  have p45 : jBook σ17 := jBook.fr ((f20 47 (by decide)).trans (congrFun (f10 55 (by decide)) 47)) ((f20 10 (by decide)).trans (congrFun (f10 55 (by decide)) 10)) ((f19 81 (by decide)).trans (f10 81 (by decide))) hs_jBook
  have z46 : (σ17 2 1).toInt = (σ 2 1).toInt := (congrArg Int32.toInt (show σ17 2 1 = (σ 2 1) from ((congrFun (f19 2 (by decide)) 1).trans (congrFun (f10 2 (by decide)) 1))))
  have z47 : (σ17 55 9).toInt = (σ 55 9).toInt := (congrArg Int32.toInt (show σ17 55 9 = (σ 55 9) from ((f20 9 (by decide)).trans (congrFun (f10 55 (by decide)) 9))))
  exact ih x22 σ17 τ _ _ ls (by have h9 := tx22; omega) ⟨I23, I24, I25, I26, I27, I28, I29, I30, I31, I32, I33, I34, I35, I36, I37, I38, I39, I40, I41, I42, I43, I21, p44, p45, (by omega)⟩ hP hS (lv_sub hl [0, 1, 2, 3] rfl)
set_option maxHeartbeats 4000000 in
set_option maxRecDepth 100000 in
theorem law_case_9 {p : Program} {e : Env} {s : State} {m : MethodId} {below : List Frame} {meth : Method} {c : Code} (l : Launch) {b L : Nat} {xs : Nat → Int32} {D : va_G} {cI cL : ClassId} {ad zz : Nat → Nat} (C0 : lw_At p s m meth c b L xs) (hJ : jD ad) (hA : ∀ q, jA ad q → s.heap.size ≤ q) (hK : jK D cI cL s) (hZ : jZ zz (fun q : Nat => s.heap.size ≤ q) s s.heap) {x0 : Int32} (hx0 : 0 ≤ x0.toInt) (hxL : x0.toInt + 6 ≤ (L : Int)) (hL : L ≤ 384) {σ : Nat → Nat → Int32} {τ : Nat → Nat → Int64} {H : Heap} {locs : List Loc} (hS : va_S (fun q : Nat => s.heap.size ≤ q) s.heap H locs) {ls : Array Slot} (hAll : jAll σ τ) (hP : jH D cI cL ad σ τ H) (hl : lv_has ls 4 [(3, .int x0), (2, .ref (ad 55)), (1, .ref (ad 0)), (0, .ref b)]) (ih : ∀ (x1 : Int32) (σ : Nat → Nat → Int32) (τ : Nat → Nat → Int64) (H : Heap) (locs : List Loc) (ls : Array Slot), x1.toInt = x0.toInt + 6 → jAll σ τ → jH D cI cL ad σ τ H → va_S (fun q : Nat => s.heap.size ≤ q) s.heap H locs → lv_has ls 4 [(3, .int x1), (2, .ref (ad 55)), (1, .ref (ad 0)), (0, .ref b)] → W p l e room_1 s m #[Value.ref b] below meth c H locs 90 348600 (lw_Z below #[Value.ref b] s) (F0 m 18 ls [])) : W p l e room_1 s m #[Value.ref b] below meth c H locs 90 348600 (lw_Z below #[Value.ref b] s) (F0 m 483 ls []) := by
  obtain ⟨hx, hb, hr, hml, hown, hts0, hX, hbl, hlocks, hgv⟩ := C0
  have hts : ∀ w ∈ wsL_law, w.before #[Value.ref b] s = true := fun w h => hts0 w (wsL_law_in w h)
  have hbA : ¬ (fun q : Nat => s.heap.size ≤ q) b := Nat.not_le.mpr hbl
  have hown : s.vm.findClass RL = some m.cls := hown
  obtain ⟨hI2, hI9, hI12, hI16, hI18, hI22, hI31, hI38, hI43, hI47, hI50, hI101, hI102, hI103, hI104, hI105, hI106, hI107, hI109, hI110, hI111, hI119, hs_jKept, hs_jBook, ht0⟩ := hAll
  have hL9 : (L : Int) ≤ 384 := by omega
  refine lv_aload_n hx hb dL_law_483 rfl (lv_at hl 2 rfl) ?_
  refine lv_aload_n hx hb dL_law_484 rfl (lv_at hl 3 rfl) ?_
  refine lv_iload_n hx hb dL_law_485 rfl (lv_at hl 0 rfl) ?_
  refine lv_iconst (v := 1) hx hb dL_law_486 (by decide) ?_
  have g1 := jrg (rfl : x0.toInt = x0.toInt)
  refine lv_iadd hx hb dL_law_487 ?_
  refine lv_topi (fun x2 ex2 => ?_)
  have tx2 : x2.toInt = x0.toInt + 1 := (jadd ex2 rfl jz_1 (by omega) (by omega)).trans (by omega)
  refine va_sld hx hb hX hbl hbA hS (jin tx2 (by omega) (by omega)) dL_law_488 ?_
  have g3 := jrg (rfl : (xs x2.toNatClampNeg).toInt = (xs x2.toNatClampNeg).toInt)
  refine lv_aload_n hx hb dL_law_489 rfl (lv_at hl 3 rfl) ?_
  refine lv_iload_n hx hb dL_law_490 rfl (lv_at hl 0 rfl) ?_
  refine lv_iconst (v := 2) hx hb dL_law_491 (by decide) ?_
  refine lv_iadd hx hb dL_law_492 ?_
  refine lv_topi (fun x4 ex4 => ?_)
  have tx4 : x4.toInt = x0.toInt + 2 := (jadd ex4 rfl jz_2 (by omega) (by omega)).trans (by omega)
  refine va_sld hx hb hX hbl hbA hS (jin tx4 (by omega) (by omega)) dL_law_493 ?_
  have g5 := jrg (rfl : (xs x4.toNatClampNeg).toInt = (xs x4.toNatClampNeg).toInt)
  refine lv_aload_n hx hb dL_law_494 rfl (lv_at hl 3 rfl) ?_
  refine lv_iload_n hx hb dL_law_495 rfl (lv_at hl 0 rfl) ?_
  refine lv_iconst (v := 3) hx hb dL_law_496 (by decide) ?_
  refine lv_iadd hx hb dL_law_497 ?_
  refine lv_topi (fun x6 ex6 => ?_)
  have tx6 : x6.toInt = x0.toInt + 3 := (jadd ex6 rfl jz_3 (by omega) (by omega)).trans (by omega)
  refine va_sld hx hb hX hbl hbA hS (jin tx6 (by omega) (by omega)) dL_law_498 ?_
  have g7 := jrg (rfl : (xs x6.toNatClampNeg).toInt = (xs x6.toNatClampNeg).toInt)
  refine jcallV (As := [.int (xs x2.toNatClampNeg), .int (xs x4.toNatClampNeg), .int (xs x6.toNatClampNeg)]) (rest := []) ⟨hx, hb, hml, hown, hts⟩ hK hP hA hS hZ (c_X11_rule l D cI cL ad zz hJ σ τ (xs x2.toNatClampNeg) ((xs x2.toNatClampNeg).toInt) rfl (xs x4.toNatClampNeg) ((xs x4.toNatClampNeg).toInt) rfl (xs x6.toNatClampNeg) ((xs x6.toNatClampNeg).toInt) rfl hI38) cw_RL_53 (jc_0 cI cL ad σ τ) rfl ⟨Nat.le_of_ble_eq_true rfl, Nat.le_of_ble_eq_true rfl⟩ rfl rfl rfl hl.1 rfl (Nat.le_of_ble_eq_true rfl) dL_law_499 ⟨Nat.le_of_ble_eq_true rfl, Nat.le_of_ble_eq_true rfl⟩ (fun r9 σ8 τ8 H locs h8 hP hS => ?_)
  obtain ⟨rfl, f10, f11, I12, h8⟩ := h8
  refine lv_pop hx hb dL_law_502 rfl ?_
  refine lv_aload_n hx hb dL_law_503 rfl (lv_at hl 1 rfl) ?_
  refine lv_aload_n hx hb dL_law_504 rfl (lv_at hl 3 rfl) ?_
  refine lv_iload_n hx hb dL_law_505 rfl (lv_at hl 0 rfl) ?_
  refine lv_iconst (v := 1) hx hb dL_law_506 (by decide) ?_
  refine lv_iadd hx hb dL_law_507 ?_
  refine jtopr ex2.symm ?_
  refine va_sld hx hb hX hbl hbA hS (jin tx2 (by omega) (by omega)) dL_law_508 ?_
  refine lv_aload_n hx hb dL_law_509 rfl (lv_at hl 3 rfl) ?_
  refine lv_iload_n hx hb dL_law_510 rfl (lv_at hl 0 rfl) ?_
  refine lv_iconst (v := 2) hx hb dL_law_511 (by decide) ?_
  refine lv_iadd hx hb dL_law_512 ?_
  refine jtopr ex4.symm ?_
  refine va_sld hx hb hX hbl hbA hS (jin tx4 (by omega) (by omega)) dL_law_513 ?_
  refine lv_aload_n hx hb dL_law_514 rfl (lv_at hl 3 rfl) ?_
  refine lv_iload_n hx hb dL_law_515 rfl (lv_at hl 0 rfl) ?_
  refine lv_iconst (v := 3) hx hb dL_law_516 (by decide) ?_
  refine lv_iadd hx hb dL_law_517 ?_
  refine jtopr ex6.symm ?_
  refine va_sld hx hb hX hbl hbA hS (jin tx6 (by omega) (by omega)) dL_law_518 ?_
  have I13 : jI106 σ8 := jI106_fr (congrFun (f10 55 (by decide)) 32) (f10 70 (by decide)) (f10 71 (by decide)) (f10 72 (by decide)) hI106
  refine jcallV (As := [.int (xs x2.toNatClampNeg), .int (xs x4.toNatClampNeg), .int (xs x6.toNatClampNeg)]) (rest := []) ⟨hx, hb, hml, hown, hts⟩ hK hP hA hS hZ (c_X12_rule l D cI cL ad zz hJ σ8 τ (xs x2.toNatClampNeg) ((xs x2.toNatClampNeg).toInt) rfl (xs x4.toNatClampNeg) ((xs x4.toNatClampNeg).toInt) rfl (xs x6.toNatClampNeg) ((xs x6.toNatClampNeg).toInt) rfl I13) cw_RL_56 (jc_55 cI cL ad σ8 τ) rfl ⟨Nat.le_of_ble_eq_true rfl, Nat.le_of_ble_eq_true rfl⟩ rfl rfl rfl hl.1 rfl (Nat.le_of_ble_eq_true rfl) dL_law_519 ⟨Nat.le_of_ble_eq_true rfl, Nat.le_of_ble_eq_true rfl⟩ (fun r15 σ14 τ14 H locs h14 hP hS => ?_)
  obtain ⟨rfl, f16, f17, I18, h14⟩ := h14
  refine lv_pop hx hb dL_law_522 rfl ?_
  refine lv_goto (tgt := 1357) hx hb dL_law_523 (by decide) ?_
  obtain ⟨x19, ex19⟩ : ∃ y : Int32, y = x0 + 6 := ⟨_, rfl⟩
  have tx19 : x19.toInt = x0.toInt + 6 := (jadd ex19 rfl jz_6 (by omega) (by omega)).trans (by omega)
  refine lv_iinc (v := x19) (lv' := [(3, .int x19), (2, .ref (ad 55)), (1, .ref (ad 0)), (0, .ref b)]) hx hb dL_law_1357 hl (k := 0) rfl (by rw [ex19]; rfl) (by decide) rfl (fun ls hl => ?_)
  refine lv_goto (tgt := 18) hx hb dL_law_1360 (by decide) ?_
  have I20 : jI2 σ14 := jI2_fr ((congrFun (f16 2 (by decide)) 0).trans (congrFun (f10 2 (by decide)) 0)) ((congrFun (f16 2 (by decide)) 1).trans (congrFun (f10 2 (by decide)) 1)) ((congrFun (f16 2 (by decide)) 2).trans (congrFun (f10 2 (by decide)) 2)) ((congrFun (f16 2 (by decide)) 3).trans (congrFun (f10 2 (by decide)) 3)) ((f16 6 (by decide)).trans (f10 6 (by decide))) hI2
  have I21 : jI9 σ14 := jI9_fr ((congrFun (f16 9 (by decide)) 0).trans (congrFun (f10 9 (by decide)) 0)) ((f16 10 (by decide)).trans (f10 10 (by decide))) ((f16 11 (by decide)).trans (f10 11 (by decide))) hI9
  have I22 : jI12 σ14 := jI12_fr ((congrFun (f16 12 (by decide)) 0).trans (congrFun (f10 12 (by decide)) 0)) ((f16 13 (by decide)).trans (f10 13 (by decide))) hI12
  have I23 : jI16 σ14 := jI16_fr ((congrFun (f16 16 (by decide)) 0).trans (congrFun (f10 16 (by decide)) 0)) ((congrFun (f16 16 (by decide)) 1).trans (congrFun (f10 16 (by decide)) 1)) ((congrFun (f16 16 (by decide)) 2).trans (congrFun (f10 16 (by decide)) 2)) ((f16 17 (by decide)).trans (f10 17 (by decide))) hI16
  have I24 : jI18 σ14 := jI18_fr ((congrFun (f16 18 (by decide)) 0).trans (congrFun (f10 18 (by decide)) 0)) ((f16 19 (by decide)).trans (f10 19 (by decide))) hI18
  have I25 : jI22 σ14 := jI22_fr ((congrFun (f16 22 (by decide)) 0).trans (congrFun (f10 22 (by decide)) 0)) ((f16 23 (by decide)).trans (f10 23 (by decide))) hI22
  have I26 : jI31 σ14 := jI31_fr ((congrFun (f16 31 (by decide)) 8).trans (congrFun (f10 31 (by decide)) 8)) ((f16 33 (by decide)).trans (f10 33 (by decide))) ((f16 36 (by decide)).trans (f10 36 (by decide))) hI31
  have I27 : jI38 σ14 := jI38_fr (congrFun (f16 38 (by decide)) 0) (congrFun (f16 38 (by decide)) 1) (f16 39 (by decide)) I12
  have I28 : jI43 σ14 := jI43_fr ((congrFun (f16 43 (by decide)) 8).trans (congrFun (f10 43 (by decide)) 8)) hI43
  have I29 : jI47 σ14 := jI47_fr ((congrFun (f16 47 (by decide)) 0).trans (congrFun (f10 47 (by decide)) 0)) ((f16 49 (by decide)).trans (f10 49 (by decide))) hI47
  have I30 : jI50 σ14 := jI50_fr ((f16 52 (by decide)).trans (f10 52 (by decide))) hI50
  have I31 : jI101 σ14 := jI101_fr ((f17 4 (by decide)).trans (congrFun (f10 55 (by decide)) 4)) ((f17 5 (by decide)).trans (congrFun (f10 55 (by decide)) 5)) ((f16 56 (by decide)).trans (f10 56 (by decide))) ((f16 57 (by decide)).trans (f10 57 (by decide))) ((f16 58 (by decide)).trans (f10 58 (by decide))) ((f16 59 (by decide)).trans (f10 59 (by decide))) hI101
  have I32 : jI102 σ14 := jI102_fr ((f17 6 (by decide)).trans (congrFun (f10 55 (by decide)) 6)) ((f16 60 (by decide)).trans (f10 60 (by decide))) ((f16 61 (by decide)).trans (f10 61 (by decide))) hI102
  have I33 : jI103 σ14 := jI103_fr ((f17 9 (by decide)).trans (congrFun (f10 55 (by decide)) 9)) hI103
  have I34 : jI104 σ14 := jI104_fr ((f17 10 (by decide)).trans (congrFun (f10 55 (by decide)) 10)) ((f17 12 (by decide)).trans (congrFun (f10 55 (by decide)) 12)) ((f17 13 (by decide)).trans (congrFun (f10 55 (by decide)) 13)) ((f16 62 (by decide)).trans (f10 62 (by decide))) ((f16 67 (by decide)).trans (f10 67 (by decide))) hI104
  have I35 : jI105 σ14 := jI105_fr ((f17 15 (by decide)).trans (congrFun (f10 55 (by decide)) 15)) ((f16 65 (by decide)).trans (f10 65 (by decide))) hI105
  have I36 : jI107 σ14 := jI107_fr ((f17 12 (by decide)).trans (congrFun (f10 55 (by decide)) 12)) ((f17 47 (by decide)).trans (congrFun (f10 55 (by decide)) 47)) ((f16 80 (by decide)).trans (f10 80 (by decide))) hI107
  have I37 : jI109 σ14 := jI109_fr ((f17 50 (by decide)).trans (congrFun (f10 55 (by decide)) 50)) hI109
  have I38 : jI110 σ14 := jI110_fr ((f16 86 (by decide)).trans (f10 86 (by decide))) ((f16 87 (by decide)).trans (f10 87 (by decide))) hI110
  have I39 : jI111 σ14 := jI111_fr ((f16 79 (by decide)).trans (f10 79 (by decide))) hI111
  have I40 : jI119 σ14 := jI119_fr ((f16 68 (by decide)).trans (f10 68 (by decide))) hI119
  have p41 : jKept σ14 := jKept.fr ((f16 75 (by decide)).trans (f10 75 (by decide))) ((f16 76 (by decide)).trans (f10 76 (by decide))) ((f16 77 (by decide)).trans (f10 77 (by decide))) hs_jKept
  have p42 : jBook σ14 := jBook.fr ((f17 47 (by decide)).trans (congrFun (f10 55 (by decide)) 47)) ((f17 10 (by decide)).trans (congrFun (f10 55 (by decide)) 10)) ((f16 81 (by decide)).trans (f10 81 (by decide))) hs_jBook
  have z43 : (σ14 2 1).toInt = (σ 2 1).toInt := (congrArg Int32.toInt (show σ14 2 1 = (σ 2 1) from ((congrFun (f16 2 (by decide)) 1).trans (congrFun (f10 2 (by decide)) 1))))
  have z44 : (σ14 55 9).toInt = (σ 55 9).toInt := (congrArg Int32.toInt (show σ14 55 9 = (σ 55 9) from ((f17 9 (by decide)).trans (congrFun (f10 55 (by decide)) 9))))
  exact ih x19 σ14 τ _ _ ls (by have h9 := tx19; omega) ⟨I20, I21, I22, I23, I24, I25, I26, I27, I28, I29, I30, I31, I32, I33, I34, I35, I18, I36, I37, I38, I39, I40, p41, p42, (by omega)⟩ hP hS (lv_sub hl [0, 1, 2, 3] rfl)
set_option maxHeartbeats 4000000 in
set_option maxRecDepth 100000 in
theorem law_case_10 {p : Program} {e : Env} {s : State} {m : MethodId} {below : List Frame} {meth : Method} {c : Code} (l : Launch) {b L : Nat} {xs : Nat → Int32} {D : va_G} {cI cL : ClassId} {ad zz : Nat → Nat} (C0 : lw_At p s m meth c b L xs) (hJ : jD ad) (hA : ∀ q, jA ad q → s.heap.size ≤ q) (hK : jK D cI cL s) (hZ : jZ zz (fun q : Nat => s.heap.size ≤ q) s s.heap) {x0 : Int32} (hx0 : 0 ≤ x0.toInt) (hxL : x0.toInt + 6 ≤ (L : Int)) (hL : L ≤ 384) {σ : Nat → Nat → Int32} {τ : Nat → Nat → Int64} {H : Heap} {locs : List Loc} (hS : va_S (fun q : Nat => s.heap.size ≤ q) s.heap H locs) {ls : Array Slot} (hAll : jAll σ τ) (hP : jH D cI cL ad σ τ H) (hl : lv_has ls 4 [(3, .int x0), (2, .ref (ad 55)), (1, .ref (ad 0)), (0, .ref b)]) (ih : ∀ (x1 : Int32) (σ : Nat → Nat → Int32) (τ : Nat → Nat → Int64) (H : Heap) (locs : List Loc) (ls : Array Slot), x1.toInt = x0.toInt + 6 → jAll σ τ → jH D cI cL ad σ τ H → va_S (fun q : Nat => s.heap.size ≤ q) s.heap H locs → lv_has ls 4 [(3, .int x1), (2, .ref (ad 55)), (1, .ref (ad 0)), (0, .ref b)] → W p l e room_1 s m #[Value.ref b] below meth c H locs 90 348600 (lw_Z below #[Value.ref b] s) (F0 m 18 ls [])) : W p l e room_1 s m #[Value.ref b] below meth c H locs 90 348600 (lw_Z below #[Value.ref b] s) (F0 m 526 ls []) := by
  obtain ⟨hx, hb, hr, hml, hown, hts0, hX, hbl, hlocks, hgv⟩ := C0
  have hts : ∀ w ∈ wsL_law, w.before #[Value.ref b] s = true := fun w h => hts0 w (wsL_law_in w h)
  have hbA : ¬ (fun q : Nat => s.heap.size ≤ q) b := Nat.not_le.mpr hbl
  have hown : s.vm.findClass RL = some m.cls := hown
  obtain ⟨hI2, hI9, hI12, hI16, hI18, hI22, hI31, hI38, hI43, hI47, hI50, hI101, hI102, hI103, hI104, hI105, hI106, hI107, hI109, hI110, hI111, hI119, hs_jKept, hs_jBook, ht0⟩ := hAll
  have hL9 : (L : Int) ≤ 384 := by omega
  refine lv_aload_n hx hb dL_law_526 rfl (lv_at hl 2 rfl) ?_
  refine lv_aload_n hx hb dL_law_527 rfl (lv_at hl 3 rfl) ?_
  refine lv_iload_n hx hb dL_law_528 rfl (lv_at hl 0 rfl) ?_
  refine lv_iconst (v := 1) hx hb dL_law_529 (by decide) ?_
  have g1 := jrg (rfl : x0.toInt = x0.toInt)
  refine lv_iadd hx hb dL_law_530 ?_
  refine lv_topi (fun x2 ex2 => ?_)
  have tx2 : x2.toInt = x0.toInt + 1 := (jadd ex2 rfl jz_1 (by omega) (by omega)).trans (by omega)
  refine va_sld hx hb hX hbl hbA hS (jin tx2 (by omega) (by omega)) dL_law_531 ?_
  have g3 := jrg (rfl : (xs x2.toNatClampNeg).toInt = (xs x2.toNatClampNeg).toInt)
  refine jcallV (As := [.int (xs x2.toNatClampNeg)]) (rest := []) ⟨hx, hb, hml, hown, hts⟩ hK hP hA hS hZ (c_X11_puts l D cI cL ad zz hJ σ τ (xs x2.toNatClampNeg) ((xs x2.toNatClampNeg).toInt) rfl hI2 hI16 hI18 hI22 hI31 hI38 hI47) cw_RL_57 (jc_0 cI cL ad σ τ) rfl ⟨Nat.le_of_ble_eq_true rfl, Nat.le_of_ble_eq_true rfl⟩ rfl rfl rfl hl.1 rfl (Nat.le_of_ble_eq_true rfl) dL_law_532 ⟨Nat.le_of_ble_eq_true rfl, Nat.le_of_ble_eq_true rfl⟩ (fun r5 σ4 τ4 H locs h4 hP hS => ?_)
  obtain ⟨rfl, f6, f7, I8, h4⟩ := h4
  refine lv_pop hx hb dL_law_535 rfl ?_
  refine lv_aload_n hx hb dL_law_536 rfl (lv_at hl 1 rfl) ?_
  refine lv_aload_n hx hb dL_law_537 rfl (lv_at hl 3 rfl) ?_
  refine lv_iload_n hx hb dL_law_538 rfl (lv_at hl 0 rfl) ?_
  refine lv_iconst (v := 1) hx hb dL_law_539 (by decide) ?_
  refine lv_iadd hx hb dL_law_540 ?_
  refine jtopr ex2.symm ?_
  refine va_sld hx hb hX hbl hbA hS (jin tx2 (by omega) (by omega)) dL_law_541 ?_
  have I9 : jI101 σ4 := jI101_fr (congrFun (f6 55 (by decide)) 4) (congrFun (f6 55 (by decide)) 5) (f6 56 (by decide)) (f6 57 (by decide)) (f6 58 (by decide)) (f6 59 (by decide)) hI101
  have I10 : jI102 σ4 := jI102_fr (congrFun (f6 55 (by decide)) 6) (f6 60 (by decide)) (f6 61 (by decide)) hI102
  have I11 : jI103 σ4 := jI103_fr (congrFun (f6 55 (by decide)) 9) hI103
  have I12 : jI104 σ4 := jI104_fr (congrFun (f6 55 (by decide)) 10) (congrFun (f6 55 (by decide)) 12) (congrFun (f6 55 (by decide)) 13) (f6 62 (by decide)) (f6 67 (by decide)) hI104
  have I13 : jI105 σ4 := jI105_fr (congrFun (f6 55 (by decide)) 15) (f6 65 (by decide)) hI105
  have I14 : jI106 σ4 := jI106_fr (congrFun (f6 55 (by decide)) 32) (f6 70 (by decide)) (f6 71 (by decide)) (f6 72 (by decide)) hI106
  have I15 : jI107 σ4 := jI107_fr (congrFun (f6 55 (by decide)) 12) (congrFun (f6 55 (by decide)) 47) (f6 80 (by decide)) hI107
  have I16 : jI119 σ4 := jI119_fr (f6 68 (by decide)) hI119
  have p17 : jKept σ4 := jKept.fr (f6 75 (by decide)) (f6 76 (by decide)) (f6 77 (by decide)) hs_jKept
  have p18 : jBook σ4 := jBook.fr (congrFun (f6 55 (by decide)) 47) (congrFun (f6 55 (by decide)) 10) (f6 81 (by decide)) hs_jBook
  refine jcallV (As := [.int (xs x2.toNatClampNeg)]) (rest := []) ⟨hx, hb, hml, hown, hts⟩ hK hP hA hS hZ (c_X12_puts l D cI cL ad zz hJ σ4 τ (xs x2.toNatClampNeg) ((xs x2.toNatClampNeg).toInt) rfl I9 I10 I11 I12 I13 I14 I15 I16 p17 p18) cw_RL_60 (jc_55 cI cL ad σ4 τ) rfl ⟨Nat.le_of_ble_eq_true rfl, Nat.le_of_ble_eq_true rfl⟩ rfl rfl rfl hl.1 rfl (Nat.le_of_ble_eq_true rfl) dL_law_542 ⟨Nat.le_of_ble_eq_true rfl, Nat.le_of_ble_eq_true rfl⟩ (fun r20 σ19 τ19 H locs h19 hP hS => ?_)
  obtain ⟨rfl, f21, f22, I23, p24, p25, h19⟩ := h19
  refine lv_pop hx hb dL_law_545 rfl ?_
  refine lv_goto (tgt := 1357) hx hb dL_law_546 (by decide) ?_
  obtain ⟨x26, ex26⟩ : ∃ y : Int32, y = x0 + 6 := ⟨_, rfl⟩
  have tx26 : x26.toInt = x0.toInt + 6 := (jadd ex26 rfl jz_6 (by omega) (by omega)).trans (by omega)
  refine lv_iinc (v := x26) (lv' := [(3, .int x26), (2, .ref (ad 55)), (1, .ref (ad 0)), (0, .ref b)]) hx hb dL_law_1357 hl (k := 0) rfl (by rw [ex26]; rfl) (by decide) rfl (fun ls hl => ?_)
  refine lv_goto (tgt := 18) hx hb dL_law_1360 (by decide) ?_
  have I27 : jI2 σ19 := jI2_fr ((congrFun (f21 2 (by decide)) 0).trans (congrFun (f6 2 (by decide)) 0)) ((congrFun (f21 2 (by decide)) 1).trans (congrFun (f6 2 (by decide)) 1)) ((congrFun (f21 2 (by decide)) 2).trans (congrFun (f6 2 (by decide)) 2)) ((congrFun (f21 2 (by decide)) 3).trans (congrFun (f6 2 (by decide)) 3)) ((f21 6 (by decide)).trans (f6 6 (by decide))) hI2
  have I28 : jI9 σ19 := jI9_fr ((congrFun (f21 9 (by decide)) 0).trans (congrFun (f6 9 (by decide)) 0)) ((f21 10 (by decide)).trans (f6 10 (by decide))) ((f21 11 (by decide)).trans (f6 11 (by decide))) hI9
  have I29 : jI12 σ19 := jI12_fr ((congrFun (f21 12 (by decide)) 0).trans (congrFun (f6 12 (by decide)) 0)) ((f21 13 (by decide)).trans (f6 13 (by decide))) hI12
  have I30 : jI16 σ19 := jI16_fr ((congrFun (f21 16 (by decide)) 0).trans (congrFun (f6 16 (by decide)) 0)) ((congrFun (f21 16 (by decide)) 1).trans (congrFun (f6 16 (by decide)) 1)) ((congrFun (f21 16 (by decide)) 2).trans (congrFun (f6 16 (by decide)) 2)) ((f21 17 (by decide)).trans (f6 17 (by decide))) hI16
  have I31 : jI18 σ19 := jI18_fr ((congrFun (f21 18 (by decide)) 0).trans (congrFun (f6 18 (by decide)) 0)) ((f21 19 (by decide)).trans (f6 19 (by decide))) hI18
  have I32 : jI22 σ19 := jI22_fr ((congrFun (f21 22 (by decide)) 0).trans (congrFun (f6 22 (by decide)) 0)) ((f21 23 (by decide)).trans (f6 23 (by decide))) hI22
  have I33 : jI31 σ19 := jI31_fr (congrFun (f21 31 (by decide)) 8) (f21 33 (by decide)) (f21 36 (by decide)) I8
  have I34 : jI38 σ19 := jI38_fr ((congrFun (f21 38 (by decide)) 0).trans (congrFun (f6 38 (by decide)) 0)) ((congrFun (f21 38 (by decide)) 1).trans (congrFun (f6 38 (by decide)) 1)) ((f21 39 (by decide)).trans (f6 39 (by decide))) hI38
  have I35 : jI43 σ19 := jI43_fr ((congrFun (f21 43 (by decide)) 8).trans (congrFun (f6 43 (by decide)) 8)) hI43
  have I36 : jI47 σ19 := jI47_fr ((congrFun (f21 47 (by decide)) 0).trans (congrFun (f6 47 (by decide)) 0)) ((f21 49 (by decide)).trans (f6 49 (by decide))) hI47
  have I37 : jI50 σ19 := jI50_fr ((f21 52 (by decide)).trans (f6 52 (by decide))) hI50
  have I38 : jI101 σ19 := jI101_fr (f22 4 (by decide)) (f22 5 (by decide)) (f21 56 (by decide)) (f21 57 (by decide)) (f21 58 (by decide)) (f21 59 (by decide)) I9
  have I39 : jI102 σ19 := jI102_fr (f22 6 (by decide)) (f21 60 (by decide)) (f21 61 (by decide)) I10
  have I40 : jI103 σ19 := jI103_fr (f22 9 (by decide)) I11
  have I41 : jI104 σ19 := jI104_fr (f22 10 (by decide)) (f22 12 (by decide)) (f22 13 (by decide)) (f21 62 (by decide)) (f21 67 (by decide)) I12
  have I42 : jI105 σ19 := jI105_fr (f22 15 (by decide)) (f21 65 (by decide)) I13
  have I43 : jI106 σ19 := jI106_fr (f22 32 (by decide)) (f21 70 (by decide)) (f21 71 (by decide)) (f21 72 (by decide)) I14
  have I44 : jI107 σ19 := jI107_fr (f22 12 (by decide)) (f22 47 (by decide)) (f21 80 (by decide)) I15
  have I45 : jI109 σ19 := jI109_fr ((f22 50 (by decide)).trans (congrFun (f6 55 (by decide)) 50)) hI109
  have I46 : jI110 σ19 := jI110_fr ((f21 86 (by decide)).trans (f6 86 (by decide))) ((f21 87 (by decide)).trans (f6 87 (by decide))) hI110
  have I47 : jI111 σ19 := jI111_fr ((f21 79 (by decide)).trans (f6 79 (by decide))) hI111
  have z48 : (σ19 2 1).toInt = (σ 2 1).toInt := (congrArg Int32.toInt (show σ19 2 1 = (σ 2 1) from ((congrFun (f21 2 (by decide)) 1).trans (congrFun (f6 2 (by decide)) 1))))
  have z49 : (σ19 55 9).toInt = (σ 55 9).toInt := (congrArg Int32.toInt (show σ19 55 9 = (σ 55 9) from ((f22 9 (by decide)).trans (congrFun (f6 55 (by decide)) 9))))
  exact ih x26 σ19 τ _ _ ls (by have h9 := tx26; omega) ⟨I27, I28, I29, I30, I31, I32, I33, I34, I35, I36, I37, I38, I39, I40, I41, I42, I43, I44, I45, I46, I47, I23, p24, p25, (by omega)⟩ hP hS (lv_sub hl [0, 1, 2, 3] rfl)
set_option maxHeartbeats 4000000 in
set_option maxRecDepth 100000 in
theorem law_case_11 {p : Program} {e : Env} {s : State} {m : MethodId} {below : List Frame} {meth : Method} {c : Code} (l : Launch) {b L : Nat} {xs : Nat → Int32} {D : va_G} {cI cL : ClassId} {ad zz : Nat → Nat} (C0 : lw_At p s m meth c b L xs) (hJ : jD ad) (hA : ∀ q, jA ad q → s.heap.size ≤ q) (hK : jK D cI cL s) (hZ : jZ zz (fun q : Nat => s.heap.size ≤ q) s s.heap) {x0 : Int32} (hx0 : 0 ≤ x0.toInt) (hxL : x0.toInt + 6 ≤ (L : Int)) (hL : L ≤ 384) {σ : Nat → Nat → Int32} {τ : Nat → Nat → Int64} {H : Heap} {locs : List Loc} (hS : va_S (fun q : Nat => s.heap.size ≤ q) s.heap H locs) {ls : Array Slot} (hAll : jAll σ τ) (hP : jH D cI cL ad σ τ H) (hl : lv_has ls 4 [(3, .int x0), (2, .ref (ad 55)), (1, .ref (ad 0)), (0, .ref b)]) (ih : ∀ (x1 : Int32) (σ : Nat → Nat → Int32) (τ : Nat → Nat → Int64) (H : Heap) (locs : List Loc) (ls : Array Slot), x1.toInt = x0.toInt + 6 → jAll σ τ → jH D cI cL ad σ τ H → va_S (fun q : Nat => s.heap.size ≤ q) s.heap H locs → lv_has ls 4 [(3, .int x1), (2, .ref (ad 55)), (1, .ref (ad 0)), (0, .ref b)] → W p l e room_1 s m #[Value.ref b] below meth c H locs 90 348600 (lw_Z below #[Value.ref b] s) (F0 m 18 ls [])) : W p l e room_1 s m #[Value.ref b] below meth c H locs 90 348600 (lw_Z below #[Value.ref b] s) (F0 m 549 ls []) := by
  obtain ⟨hx, hb, hr, hml, hown, hts0, hX, hbl, hlocks, hgv⟩ := C0
  have hts : ∀ w ∈ wsL_law, w.before #[Value.ref b] s = true := fun w h => hts0 w (wsL_law_in w h)
  have hbA : ¬ (fun q : Nat => s.heap.size ≤ q) b := Nat.not_le.mpr hbl
  have hown : s.vm.findClass RL = some m.cls := hown
  obtain ⟨hI2, hI9, hI12, hI16, hI18, hI22, hI31, hI38, hI43, hI47, hI50, hI101, hI102, hI103, hI104, hI105, hI106, hI107, hI109, hI110, hI111, hI119, hs_jKept, hs_jBook, ht0⟩ := hAll
  have hL9 : (L : Int) ≤ 384 := by omega
  refine lv_aload_n hx hb dL_law_549 rfl (lv_at hl 2 rfl) ?_
  refine lv_aload_n hx hb dL_law_550 rfl (lv_at hl 3 rfl) ?_
  refine lv_iload_n hx hb dL_law_551 rfl (lv_at hl 0 rfl) ?_
  refine lv_iconst (v := 1) hx hb dL_law_552 (by decide) ?_
  have g1 := jrg (rfl : x0.toInt = x0.toInt)
  refine lv_iadd hx hb dL_law_553 ?_
  refine lv_topi (fun x2 ex2 => ?_)
  have tx2 : x2.toInt = x0.toInt + 1 := (jadd ex2 rfl jz_1 (by omega) (by omega)).trans (by omega)
  refine va_sld hx hb hX hbl hbA hS (jin tx2 (by omega) (by omega)) dL_law_554 ?_
  have g3 := jrg (rfl : (xs x2.toNatClampNeg).toInt = (xs x2.toNatClampNeg).toInt)
  refine jcallV (As := [.int (xs x2.toNatClampNeg)]) (rest := []) ⟨hx, hb, hml, hown, hts⟩ hK hP hA hS hZ (c_X11_mean l D cI cL ad zz hJ σ τ (xs x2.toNatClampNeg) ((xs x2.toNatClampNeg).toInt) rfl hI2 hI16 hI18 hI22 hI31 hI38) cw_RL_61 (jc_0 cI cL ad σ τ) rfl ⟨Nat.le_of_ble_eq_true rfl, Nat.le_of_ble_eq_true rfl⟩ rfl rfl rfl hl.1 rfl (Nat.le_of_ble_eq_true rfl) dL_law_555 ⟨Nat.le_of_ble_eq_true rfl, Nat.le_of_ble_eq_true rfl⟩ (fun r5 σ4 τ4 H locs h4 hP hS => ?_)
  obtain ⟨rfl, f6, f7, I8, h4⟩ := h4
  refine lv_pop hx hb dL_law_558 rfl ?_
  refine lv_aload_n hx hb dL_law_559 rfl (lv_at hl 1 rfl) ?_
  refine lv_aload_n hx hb dL_law_560 rfl (lv_at hl 3 rfl) ?_
  refine lv_iload_n hx hb dL_law_561 rfl (lv_at hl 0 rfl) ?_
  refine lv_iconst (v := 1) hx hb dL_law_562 (by decide) ?_
  refine lv_iadd hx hb dL_law_563 ?_
  refine jtopr ex2.symm ?_
  refine va_sld hx hb hX hbl hbA hS (jin tx2 (by omega) (by omega)) dL_law_564 ?_
  have I9 : jI101 σ4 := jI101_fr (congrFun (f6 55 (by decide)) 4) (congrFun (f6 55 (by decide)) 5) (f6 56 (by decide)) (f6 57 (by decide)) (f6 58 (by decide)) (f6 59 (by decide)) hI101
  have I10 : jI102 σ4 := jI102_fr (congrFun (f6 55 (by decide)) 6) (f6 60 (by decide)) (f6 61 (by decide)) hI102
  have I11 : jI103 σ4 := jI103_fr (congrFun (f6 55 (by decide)) 9) hI103
  have I12 : jI104 σ4 := jI104_fr (congrFun (f6 55 (by decide)) 10) (congrFun (f6 55 (by decide)) 12) (congrFun (f6 55 (by decide)) 13) (f6 62 (by decide)) (f6 67 (by decide)) hI104
  have I13 : jI105 σ4 := jI105_fr (congrFun (f6 55 (by decide)) 15) (f6 65 (by decide)) hI105
  have I14 : jI106 σ4 := jI106_fr (congrFun (f6 55 (by decide)) 32) (f6 70 (by decide)) (f6 71 (by decide)) (f6 72 (by decide)) hI106
  have I15 : jI119 σ4 := jI119_fr (f6 68 (by decide)) hI119
  have p16 : jKept σ4 := jKept.fr (f6 75 (by decide)) (f6 76 (by decide)) (f6 77 (by decide)) hs_jKept
  refine jcallV (As := [.int (xs x2.toNatClampNeg)]) (rest := []) ⟨hx, hb, hml, hown, hts⟩ hK hP hA hS hZ (c_X12_mean l D cI cL ad zz hJ σ4 τ (xs x2.toNatClampNeg) ((xs x2.toNatClampNeg).toInt) rfl I9 I10 I11 I12 I13 I14 I15 p16) cw_RL_64 (jc_55 cI cL ad σ4 τ) rfl ⟨Nat.le_of_ble_eq_true rfl, Nat.le_of_ble_eq_true rfl⟩ rfl rfl rfl hl.1 rfl (Nat.le_of_ble_eq_true rfl) dL_law_565 ⟨Nat.le_of_ble_eq_true rfl, Nat.le_of_ble_eq_true rfl⟩ (fun r18 σ17 τ17 H locs h17 hP hS => ?_)
  obtain ⟨rfl, f19, f20, I21, p22, h17⟩ := h17
  refine lv_pop hx hb dL_law_568 rfl ?_
  refine lv_goto (tgt := 1357) hx hb dL_law_569 (by decide) ?_
  obtain ⟨x23, ex23⟩ : ∃ y : Int32, y = x0 + 6 := ⟨_, rfl⟩
  have tx23 : x23.toInt = x0.toInt + 6 := (jadd ex23 rfl jz_6 (by omega) (by omega)).trans (by omega)
  refine lv_iinc (v := x23) (lv' := [(3, .int x23), (2, .ref (ad 55)), (1, .ref (ad 0)), (0, .ref b)]) hx hb dL_law_1357 hl (k := 0) rfl (by rw [ex23]; rfl) (by decide) rfl (fun ls hl => ?_)
  refine lv_goto (tgt := 18) hx hb dL_law_1360 (by decide) ?_
  have I24 : jI2 σ17 := jI2_fr ((congrFun (f19 2 (by decide)) 0).trans (congrFun (f6 2 (by decide)) 0)) ((congrFun (f19 2 (by decide)) 1).trans (congrFun (f6 2 (by decide)) 1)) ((congrFun (f19 2 (by decide)) 2).trans (congrFun (f6 2 (by decide)) 2)) ((congrFun (f19 2 (by decide)) 3).trans (congrFun (f6 2 (by decide)) 3)) ((f19 6 (by decide)).trans (f6 6 (by decide))) hI2
  have I25 : jI9 σ17 := jI9_fr ((congrFun (f19 9 (by decide)) 0).trans (congrFun (f6 9 (by decide)) 0)) ((f19 10 (by decide)).trans (f6 10 (by decide))) ((f19 11 (by decide)).trans (f6 11 (by decide))) hI9
  have I26 : jI12 σ17 := jI12_fr ((congrFun (f19 12 (by decide)) 0).trans (congrFun (f6 12 (by decide)) 0)) ((f19 13 (by decide)).trans (f6 13 (by decide))) hI12
  have I27 : jI16 σ17 := jI16_fr ((congrFun (f19 16 (by decide)) 0).trans (congrFun (f6 16 (by decide)) 0)) ((congrFun (f19 16 (by decide)) 1).trans (congrFun (f6 16 (by decide)) 1)) ((congrFun (f19 16 (by decide)) 2).trans (congrFun (f6 16 (by decide)) 2)) ((f19 17 (by decide)).trans (f6 17 (by decide))) hI16
  have I28 : jI18 σ17 := jI18_fr ((congrFun (f19 18 (by decide)) 0).trans (congrFun (f6 18 (by decide)) 0)) ((f19 19 (by decide)).trans (f6 19 (by decide))) hI18
  have I29 : jI22 σ17 := jI22_fr ((congrFun (f19 22 (by decide)) 0).trans (congrFun (f6 22 (by decide)) 0)) ((f19 23 (by decide)).trans (f6 23 (by decide))) hI22
  have I30 : jI31 σ17 := jI31_fr (congrFun (f19 31 (by decide)) 8) (f19 33 (by decide)) (f19 36 (by decide)) I8
  have I31 : jI38 σ17 := jI38_fr ((congrFun (f19 38 (by decide)) 0).trans (congrFun (f6 38 (by decide)) 0)) ((congrFun (f19 38 (by decide)) 1).trans (congrFun (f6 38 (by decide)) 1)) ((f19 39 (by decide)).trans (f6 39 (by decide))) hI38
  have I32 : jI43 σ17 := jI43_fr ((congrFun (f19 43 (by decide)) 8).trans (congrFun (f6 43 (by decide)) 8)) hI43
  have I33 : jI47 σ17 := jI47_fr ((congrFun (f19 47 (by decide)) 0).trans (congrFun (f6 47 (by decide)) 0)) ((f19 49 (by decide)).trans (f6 49 (by decide))) hI47
  have I34 : jI50 σ17 := jI50_fr ((f19 52 (by decide)).trans (f6 52 (by decide))) hI50
  have I35 : jI101 σ17 := jI101_fr (f20 4 (by decide)) (f20 5 (by decide)) (f19 56 (by decide)) (f19 57 (by decide)) (f19 58 (by decide)) (f19 59 (by decide)) I9
  have I36 : jI102 σ17 := jI102_fr (f20 6 (by decide)) (f19 60 (by decide)) (f19 61 (by decide)) I10
  have I37 : jI103 σ17 := jI103_fr (f20 9 (by decide)) I11
  have I38 : jI104 σ17 := jI104_fr (f20 10 (by decide)) (f20 12 (by decide)) (f20 13 (by decide)) (f19 62 (by decide)) (f19 67 (by decide)) I12
  have I39 : jI105 σ17 := jI105_fr (f20 15 (by decide)) (f19 65 (by decide)) I13
  have I40 : jI106 σ17 := jI106_fr (f20 32 (by decide)) (f19 70 (by decide)) (f19 71 (by decide)) (f19 72 (by decide)) I14
  have I41 : jI107 σ17 := jI107_fr ((f20 12 (by decide)).trans (congrFun (f6 55 (by decide)) 12)) ((f20 47 (by decide)).trans (congrFun (f6 55 (by decide)) 47)) ((f19 80 (by decide)).trans (f6 80 (by decide))) hI107
  have I42 : jI109 σ17 := jI109_fr ((f20 50 (by decide)).trans (congrFun (f6 55 (by decide)) 50)) hI109
  have I43 : jI110 σ17 := jI110_fr ((f19 86 (by decide)).trans (f6 86 (by decide))) ((f19 87 (by decide)).trans (f6 87 (by decide))) hI110
  have I44 : jI111 σ17 := jI111_fr ((f19 79 (by decide)).trans (f6 79 (by decide))) hI111
  have p45 : jBook σ17 := jBook.fr ((f20 47 (by decide)).trans (congrFun (f6 55 (by decide)) 47)) ((f20 10 (by decide)).trans (congrFun (f6 55 (by decide)) 10)) ((f19 81 (by decide)).trans (f6 81 (by decide))) hs_jBook
  have z46 : (σ17 2 1).toInt = (σ 2 1).toInt := (congrArg Int32.toInt (show σ17 2 1 = (σ 2 1) from ((congrFun (f19 2 (by decide)) 1).trans (congrFun (f6 2 (by decide)) 1))))
  have z47 : (σ17 55 9).toInt = (σ 55 9).toInt := (congrArg Int32.toInt (show σ17 55 9 = (σ 55 9) from ((f20 9 (by decide)).trans (congrFun (f6 55 (by decide)) 9))))
  exact ih x23 σ17 τ _ _ ls (by have h9 := tx23; omega) ⟨I24, I25, I26, I27, I28, I29, I30, I31, I32, I33, I34, I35, I36, I37, I38, I39, I40, I41, I42, I43, I44, I21, p22, p45, (by omega)⟩ hP hS (lv_sub hl [0, 1, 2, 3] rfl)
set_option maxHeartbeats 4000000 in
set_option maxRecDepth 100000 in
theorem law_case_12 {p : Program} {e : Env} {s : State} {m : MethodId} {below : List Frame} {meth : Method} {c : Code} (l : Launch) {b L : Nat} {xs : Nat → Int32} {D : va_G} {cI cL : ClassId} {ad zz : Nat → Nat} (C0 : lw_At p s m meth c b L xs) (hJ : jD ad) (hA : ∀ q, jA ad q → s.heap.size ≤ q) (hK : jK D cI cL s) (hZ : jZ zz (fun q : Nat => s.heap.size ≤ q) s s.heap) {x0 : Int32} (hx0 : 0 ≤ x0.toInt) (hxL : x0.toInt + 6 ≤ (L : Int)) (hL : L ≤ 384) {σ : Nat → Nat → Int32} {τ : Nat → Nat → Int64} {H : Heap} {locs : List Loc} (hS : va_S (fun q : Nat => s.heap.size ≤ q) s.heap H locs) {ls : Array Slot} (hAll : jAll σ τ) (hP : jH D cI cL ad σ τ H) (hl : lv_has ls 4 [(3, .int x0), (2, .ref (ad 55)), (1, .ref (ad 0)), (0, .ref b)]) (ih : ∀ (x1 : Int32) (σ : Nat → Nat → Int32) (τ : Nat → Nat → Int64) (H : Heap) (locs : List Loc) (ls : Array Slot), x1.toInt = x0.toInt + 6 → jAll σ τ → jH D cI cL ad σ τ H → va_S (fun q : Nat => s.heap.size ≤ q) s.heap H locs → lv_has ls 4 [(3, .int x1), (2, .ref (ad 55)), (1, .ref (ad 0)), (0, .ref b)] → W p l e room_1 s m #[Value.ref b] below meth c H locs 90 348600 (lw_Z below #[Value.ref b] s) (F0 m 18 ls [])) : W p l e room_1 s m #[Value.ref b] below meth c H locs 90 348600 (lw_Z below #[Value.ref b] s) (F0 m 572 ls []) := by
  obtain ⟨hx, hb, hr, hml, hown, hts0, hX, hbl, hlocks, hgv⟩ := C0
  have hts : ∀ w ∈ wsL_law, w.before #[Value.ref b] s = true := fun w h => hts0 w (wsL_law_in w h)
  have hbA : ¬ (fun q : Nat => s.heap.size ≤ q) b := Nat.not_le.mpr hbl
  have hown : s.vm.findClass RL = some m.cls := hown
  obtain ⟨hI2, hI9, hI12, hI16, hI18, hI22, hI31, hI38, hI43, hI47, hI50, hI101, hI102, hI103, hI104, hI105, hI106, hI107, hI109, hI110, hI111, hI119, hs_jKept, hs_jBook, ht0⟩ := hAll
  have hL9 : (L : Int) ≤ 384 := by omega
  refine lv_aload_n hx hb dL_law_572 rfl (lv_at hl 2 rfl) ?_
  refine lv_aload_n hx hb dL_law_573 rfl (lv_at hl 3 rfl) ?_
  refine lv_iload_n hx hb dL_law_574 rfl (lv_at hl 0 rfl) ?_
  refine lv_iconst (v := 1) hx hb dL_law_575 (by decide) ?_
  have g1 := jrg (rfl : x0.toInt = x0.toInt)
  refine lv_iadd hx hb dL_law_576 ?_
  refine lv_topi (fun x2 ex2 => ?_)
  have tx2 : x2.toInt = x0.toInt + 1 := (jadd ex2 rfl jz_1 (by omega) (by omega)).trans (by omega)
  refine va_sld hx hb hX hbl hbA hS (jin tx2 (by omega) (by omega)) dL_law_577 ?_
  have g3 := jrg (rfl : (xs x2.toNatClampNeg).toInt = (xs x2.toNatClampNeg).toInt)
  refine lv_aload_n hx hb dL_law_578 rfl (lv_at hl 3 rfl) ?_
  refine lv_iload_n hx hb dL_law_579 rfl (lv_at hl 0 rfl) ?_
  refine lv_iconst (v := 2) hx hb dL_law_580 (by decide) ?_
  refine lv_iadd hx hb dL_law_581 ?_
  refine lv_topi (fun x4 ex4 => ?_)
  have tx4 : x4.toInt = x0.toInt + 2 := (jadd ex4 rfl jz_2 (by omega) (by omega)).trans (by omega)
  refine va_sld hx hb hX hbl hbA hS (jin tx4 (by omega) (by omega)) dL_law_582 ?_
  have g5 := jrg (rfl : (xs x4.toNatClampNeg).toInt = (xs x4.toNatClampNeg).toInt)
  refine jcallV (As := [.int (xs x2.toNatClampNeg), .int (xs x4.toNatClampNeg)]) (rest := []) ⟨hx, hb, hml, hown, hts⟩ hK hP hA hS hZ (c_X11_likely l D cI cL ad zz hJ σ τ (xs x2.toNatClampNeg) ((xs x2.toNatClampNeg).toInt) rfl (xs x4.toNatClampNeg) ((xs x4.toNatClampNeg).toInt) rfl hI2 hI16 hI18 hI22 hI31 hI38) cw_RL_65 (jc_0 cI cL ad σ τ) rfl ⟨Nat.le_of_ble_eq_true rfl, Nat.le_of_ble_eq_true rfl⟩ rfl rfl rfl hl.1 rfl (Nat.le_of_ble_eq_true rfl) dL_law_583 ⟨Nat.le_of_ble_eq_true rfl, Nat.le_of_ble_eq_true rfl⟩ (fun r7 σ6 τ6 H locs h6 hP hS => ?_)
  obtain ⟨rfl, f8, f9, I10, h6⟩ := h6
  refine lv_pop hx hb dL_law_586 rfl ?_
  refine lv_aload_n hx hb dL_law_587 rfl (lv_at hl 1 rfl) ?_
  refine lv_aload_n hx hb dL_law_588 rfl (lv_at hl 3 rfl) ?_
  refine lv_iload_n hx hb dL_law_589 rfl (lv_at hl 0 rfl) ?_
  refine lv_iconst (v := 1) hx hb dL_law_590 (by decide) ?_
  refine lv_iadd hx hb dL_law_591 ?_
  refine jtopr ex2.symm ?_
  refine va_sld hx hb hX hbl hbA hS (jin tx2 (by omega) (by omega)) dL_law_592 ?_
  refine lv_aload_n hx hb dL_law_593 rfl (lv_at hl 3 rfl) ?_
  refine lv_iload_n hx hb dL_law_594 rfl (lv_at hl 0 rfl) ?_
  refine lv_iconst (v := 2) hx hb dL_law_595 (by decide) ?_
  refine lv_iadd hx hb dL_law_596 ?_
  refine jtopr ex4.symm ?_
  refine va_sld hx hb hX hbl hbA hS (jin tx4 (by omega) (by omega)) dL_law_597 ?_
  have I11 : jI101 σ6 := jI101_fr (congrFun (f8 55 (by decide)) 4) (congrFun (f8 55 (by decide)) 5) (f8 56 (by decide)) (f8 57 (by decide)) (f8 58 (by decide)) (f8 59 (by decide)) hI101
  have I12 : jI102 σ6 := jI102_fr (congrFun (f8 55 (by decide)) 6) (f8 60 (by decide)) (f8 61 (by decide)) hI102
  have I13 : jI103 σ6 := jI103_fr (congrFun (f8 55 (by decide)) 9) hI103
  have I14 : jI104 σ6 := jI104_fr (congrFun (f8 55 (by decide)) 10) (congrFun (f8 55 (by decide)) 12) (congrFun (f8 55 (by decide)) 13) (f8 62 (by decide)) (f8 67 (by decide)) hI104
  have I15 : jI105 σ6 := jI105_fr (congrFun (f8 55 (by decide)) 15) (f8 65 (by decide)) hI105
  have I16 : jI106 σ6 := jI106_fr (congrFun (f8 55 (by decide)) 32) (f8 70 (by decide)) (f8 71 (by decide)) (f8 72 (by decide)) hI106
  have I17 : jI119 σ6 := jI119_fr (f8 68 (by decide)) hI119
  have p18 : jKept σ6 := jKept.fr (f8 75 (by decide)) (f8 76 (by decide)) (f8 77 (by decide)) hs_jKept
  refine jcallV (As := [.int (xs x2.toNatClampNeg), .int (xs x4.toNatClampNeg)]) (rest := []) ⟨hx, hb, hml, hown, hts⟩ hK hP hA hS hZ (c_X12_likely l D cI cL ad zz hJ σ6 τ (xs x2.toNatClampNeg) ((xs x2.toNatClampNeg).toInt) rfl (xs x4.toNatClampNeg) ((xs x4.toNatClampNeg).toInt) rfl I11 I12 I13 I14 I15 I16 I17 p18) cw_RL_68 (jc_55 cI cL ad σ6 τ) rfl ⟨Nat.le_of_ble_eq_true rfl, Nat.le_of_ble_eq_true rfl⟩ rfl rfl rfl hl.1 rfl (Nat.le_of_ble_eq_true rfl) dL_law_598 ⟨Nat.le_of_ble_eq_true rfl, Nat.le_of_ble_eq_true rfl⟩ (fun r20 σ19 τ19 H locs h19 hP hS => ?_)
  obtain ⟨rfl, f21, f22, I23, p24, h19⟩ := h19
  refine lv_pop hx hb dL_law_601 rfl ?_
  refine lv_goto (tgt := 1357) hx hb dL_law_602 (by decide) ?_
  obtain ⟨x25, ex25⟩ : ∃ y : Int32, y = x0 + 6 := ⟨_, rfl⟩
  have tx25 : x25.toInt = x0.toInt + 6 := (jadd ex25 rfl jz_6 (by omega) (by omega)).trans (by omega)
  refine lv_iinc (v := x25) (lv' := [(3, .int x25), (2, .ref (ad 55)), (1, .ref (ad 0)), (0, .ref b)]) hx hb dL_law_1357 hl (k := 0) rfl (by rw [ex25]; rfl) (by decide) rfl (fun ls hl => ?_)
  refine lv_goto (tgt := 18) hx hb dL_law_1360 (by decide) ?_
  have I26 : jI2 σ19 := jI2_fr ((congrFun (f21 2 (by decide)) 0).trans (congrFun (f8 2 (by decide)) 0)) ((congrFun (f21 2 (by decide)) 1).trans (congrFun (f8 2 (by decide)) 1)) ((congrFun (f21 2 (by decide)) 2).trans (congrFun (f8 2 (by decide)) 2)) ((congrFun (f21 2 (by decide)) 3).trans (congrFun (f8 2 (by decide)) 3)) ((f21 6 (by decide)).trans (f8 6 (by decide))) hI2
  have I27 : jI9 σ19 := jI9_fr ((congrFun (f21 9 (by decide)) 0).trans (congrFun (f8 9 (by decide)) 0)) ((f21 10 (by decide)).trans (f8 10 (by decide))) ((f21 11 (by decide)).trans (f8 11 (by decide))) hI9
  have I28 : jI12 σ19 := jI12_fr ((congrFun (f21 12 (by decide)) 0).trans (congrFun (f8 12 (by decide)) 0)) ((f21 13 (by decide)).trans (f8 13 (by decide))) hI12
  have I29 : jI16 σ19 := jI16_fr ((congrFun (f21 16 (by decide)) 0).trans (congrFun (f8 16 (by decide)) 0)) ((congrFun (f21 16 (by decide)) 1).trans (congrFun (f8 16 (by decide)) 1)) ((congrFun (f21 16 (by decide)) 2).trans (congrFun (f8 16 (by decide)) 2)) ((f21 17 (by decide)).trans (f8 17 (by decide))) hI16
  have I30 : jI18 σ19 := jI18_fr ((congrFun (f21 18 (by decide)) 0).trans (congrFun (f8 18 (by decide)) 0)) ((f21 19 (by decide)).trans (f8 19 (by decide))) hI18
  have I31 : jI22 σ19 := jI22_fr ((congrFun (f21 22 (by decide)) 0).trans (congrFun (f8 22 (by decide)) 0)) ((f21 23 (by decide)).trans (f8 23 (by decide))) hI22
  have I32 : jI31 σ19 := jI31_fr (congrFun (f21 31 (by decide)) 8) (f21 33 (by decide)) (f21 36 (by decide)) I10
  have I33 : jI38 σ19 := jI38_fr ((congrFun (f21 38 (by decide)) 0).trans (congrFun (f8 38 (by decide)) 0)) ((congrFun (f21 38 (by decide)) 1).trans (congrFun (f8 38 (by decide)) 1)) ((f21 39 (by decide)).trans (f8 39 (by decide))) hI38
  have I34 : jI43 σ19 := jI43_fr ((congrFun (f21 43 (by decide)) 8).trans (congrFun (f8 43 (by decide)) 8)) hI43
  have I35 : jI47 σ19 := jI47_fr ((congrFun (f21 47 (by decide)) 0).trans (congrFun (f8 47 (by decide)) 0)) ((f21 49 (by decide)).trans (f8 49 (by decide))) hI47
  have I36 : jI50 σ19 := jI50_fr ((f21 52 (by decide)).trans (f8 52 (by decide))) hI50
  have I37 : jI101 σ19 := jI101_fr (f22 4 (by decide)) (f22 5 (by decide)) (f21 56 (by decide)) (f21 57 (by decide)) (f21 58 (by decide)) (f21 59 (by decide)) I11
  have I38 : jI102 σ19 := jI102_fr (f22 6 (by decide)) (f21 60 (by decide)) (f21 61 (by decide)) I12
  have I39 : jI103 σ19 := jI103_fr (f22 9 (by decide)) I13
  have I40 : jI104 σ19 := jI104_fr (f22 10 (by decide)) (f22 12 (by decide)) (f22 13 (by decide)) (f21 62 (by decide)) (f21 67 (by decide)) I14
  have I41 : jI105 σ19 := jI105_fr (f22 15 (by decide)) (f21 65 (by decide)) I15
  have I42 : jI106 σ19 := jI106_fr (f22 32 (by decide)) (f21 70 (by decide)) (f21 71 (by decide)) (f21 72 (by decide)) I16
  have I43 : jI107 σ19 := jI107_fr ((f22 12 (by decide)).trans (congrFun (f8 55 (by decide)) 12)) ((f22 47 (by decide)).trans (congrFun (f8 55 (by decide)) 47)) ((f21 80 (by decide)).trans (f8 80 (by decide))) hI107
  have I44 : jI109 σ19 := jI109_fr ((f22 50 (by decide)).trans (congrFun (f8 55 (by decide)) 50)) hI109
  have I45 : jI110 σ19 := jI110_fr ((f21 86 (by decide)).trans (f8 86 (by decide))) ((f21 87 (by decide)).trans (f8 87 (by decide))) hI110
  have I46 : jI111 σ19 := jI111_fr ((f21 79 (by decide)).trans (f8 79 (by decide))) hI111
  have p47 : jBook σ19 := jBook.fr ((f22 47 (by decide)).trans (congrFun (f8 55 (by decide)) 47)) ((f22 10 (by decide)).trans (congrFun (f8 55 (by decide)) 10)) ((f21 81 (by decide)).trans (f8 81 (by decide))) hs_jBook
  have z48 : (σ19 2 1).toInt = (σ 2 1).toInt := (congrArg Int32.toInt (show σ19 2 1 = (σ 2 1) from ((congrFun (f21 2 (by decide)) 1).trans (congrFun (f8 2 (by decide)) 1))))
  have z49 : (σ19 55 9).toInt = (σ 55 9).toInt := (congrArg Int32.toInt (show σ19 55 9 = (σ 55 9) from ((f22 9 (by decide)).trans (congrFun (f8 55 (by decide)) 9))))
  exact ih x25 σ19 τ _ _ ls (by have h9 := tx25; omega) ⟨I26, I27, I28, I29, I30, I31, I32, I33, I34, I35, I36, I37, I38, I39, I40, I41, I42, I43, I44, I45, I46, I23, p24, p47, (by omega)⟩ hP hS (lv_sub hl [0, 1, 2, 3] rfl)
set_option maxHeartbeats 4000000 in
set_option maxRecDepth 100000 in
theorem law_case_13 {p : Program} {e : Env} {s : State} {m : MethodId} {below : List Frame} {meth : Method} {c : Code} (l : Launch) {b L : Nat} {xs : Nat → Int32} {D : va_G} {cI cL : ClassId} {ad zz : Nat → Nat} (C0 : lw_At p s m meth c b L xs) (hJ : jD ad) (hA : ∀ q, jA ad q → s.heap.size ≤ q) (hK : jK D cI cL s) (hZ : jZ zz (fun q : Nat => s.heap.size ≤ q) s s.heap) {x0 : Int32} (hx0 : 0 ≤ x0.toInt) (hxL : x0.toInt + 6 ≤ (L : Int)) (hL : L ≤ 384) {σ : Nat → Nat → Int32} {τ : Nat → Nat → Int64} {H : Heap} {locs : List Loc} (hS : va_S (fun q : Nat => s.heap.size ≤ q) s.heap H locs) {ls : Array Slot} (hAll : jAll σ τ) (hP : jH D cI cL ad σ τ H) (hl : lv_has ls 4 [(3, .int x0), (2, .ref (ad 55)), (1, .ref (ad 0)), (0, .ref b)]) (ih : ∀ (x1 : Int32) (σ : Nat → Nat → Int32) (τ : Nat → Nat → Int64) (H : Heap) (locs : List Loc) (ls : Array Slot), x1.toInt = x0.toInt + 6 → jAll σ τ → jH D cI cL ad σ τ H → va_S (fun q : Nat => s.heap.size ≤ q) s.heap H locs → lv_has ls 4 [(3, .int x1), (2, .ref (ad 55)), (1, .ref (ad 0)), (0, .ref b)] → W p l e room_1 s m #[Value.ref b] below meth c H locs 90 348600 (lw_Z below #[Value.ref b] s) (F0 m 18 ls [])) : W p l e room_1 s m #[Value.ref b] below meth c H locs 90 348600 (lw_Z below #[Value.ref b] s) (F0 m 605 ls []) := by
  obtain ⟨hx, hb, hr, hml, hown, hts0, hX, hbl, hlocks, hgv⟩ := C0
  have hts : ∀ w ∈ wsL_law, w.before #[Value.ref b] s = true := fun w h => hts0 w (wsL_law_in w h)
  have hbA : ¬ (fun q : Nat => s.heap.size ≤ q) b := Nat.not_le.mpr hbl
  have hown : s.vm.findClass RL = some m.cls := hown
  obtain ⟨hI2, hI9, hI12, hI16, hI18, hI22, hI31, hI38, hI43, hI47, hI50, hI101, hI102, hI103, hI104, hI105, hI106, hI107, hI109, hI110, hI111, hI119, hs_jKept, hs_jBook, ht0⟩ := hAll
  have hL9 : (L : Int) ≤ 384 := by omega
  refine lv_aload_n hx hb dL_law_605 rfl (lv_at hl 2 rfl) ?_
  refine lv_aload_n hx hb dL_law_606 rfl (lv_at hl 3 rfl) ?_
  refine lv_iload_n hx hb dL_law_607 rfl (lv_at hl 0 rfl) ?_
  refine lv_iconst (v := 1) hx hb dL_law_608 (by decide) ?_
  have g1 := jrg (rfl : x0.toInt = x0.toInt)
  refine lv_iadd hx hb dL_law_609 ?_
  refine lv_topi (fun x2 ex2 => ?_)
  have tx2 : x2.toInt = x0.toInt + 1 := (jadd ex2 rfl jz_1 (by omega) (by omega)).trans (by omega)
  refine va_sld hx hb hX hbl hbA hS (jin tx2 (by omega) (by omega)) dL_law_610 ?_
  have g3 := jrg (rfl : (xs x2.toNatClampNeg).toInt = (xs x2.toNatClampNeg).toInt)
  refine jcallV (As := [.int (xs x2.toNatClampNeg)]) (rest := []) ⟨hx, hb, hml, hown, hts⟩ hK hP hA hS hZ (c_X11_best l D cI cL ad zz hJ σ τ (xs x2.toNatClampNeg) ((xs x2.toNatClampNeg).toInt) rfl hI2 hI16 hI22 hI31 hI47) cw_RL_69 (jc_0 cI cL ad σ τ) rfl ⟨Nat.le_of_ble_eq_true rfl, Nat.le_of_ble_eq_true rfl⟩ rfl rfl rfl hl.1 rfl (Nat.le_of_ble_eq_true rfl) dL_law_611 ⟨Nat.le_of_ble_eq_true rfl, Nat.le_of_ble_eq_true rfl⟩ (fun r5 σ4 τ4 H locs h4 hP hS => ?_)
  obtain ⟨rfl, f6, f7, I8, h4⟩ := h4
  refine lv_pop hx hb dL_law_614 rfl ?_
  refine lv_aload_n hx hb dL_law_615 rfl (lv_at hl 1 rfl) ?_
  refine lv_aload_n hx hb dL_law_616 rfl (lv_at hl 3 rfl) ?_
  refine lv_iload_n hx hb dL_law_617 rfl (lv_at hl 0 rfl) ?_
  refine lv_iconst (v := 1) hx hb dL_law_618 (by decide) ?_
  refine lv_iadd hx hb dL_law_619 ?_
  refine jtopr ex2.symm ?_
  refine va_sld hx hb hX hbl hbA hS (jin tx2 (by omega) (by omega)) dL_law_620 ?_
  have I9 : jI101 σ4 := jI101_fr (congrFun (f6 55 (by decide)) 4) (congrFun (f6 55 (by decide)) 5) (f6 56 (by decide)) (f6 57 (by decide)) (f6 58 (by decide)) (f6 59 (by decide)) hI101
  have I10 : jI102 σ4 := jI102_fr (congrFun (f6 55 (by decide)) 6) (f6 60 (by decide)) (f6 61 (by decide)) hI102
  have I11 : jI103 σ4 := jI103_fr (congrFun (f6 55 (by decide)) 9) hI103
  have I12 : jI104 σ4 := jI104_fr (congrFun (f6 55 (by decide)) 10) (congrFun (f6 55 (by decide)) 12) (congrFun (f6 55 (by decide)) 13) (f6 62 (by decide)) (f6 67 (by decide)) hI104
  have I13 : jI105 σ4 := jI105_fr (congrFun (f6 55 (by decide)) 15) (f6 65 (by decide)) hI105
  have I14 : jI106 σ4 := jI106_fr (congrFun (f6 55 (by decide)) 32) (f6 70 (by decide)) (f6 71 (by decide)) (f6 72 (by decide)) hI106
  have I15 : jI107 σ4 := jI107_fr (congrFun (f6 55 (by decide)) 12) (congrFun (f6 55 (by decide)) 47) (f6 80 (by decide)) hI107
  have I16 : jI119 σ4 := jI119_fr (f6 68 (by decide)) hI119
  have p17 : jKept σ4 := jKept.fr (f6 75 (by decide)) (f6 76 (by decide)) (f6 77 (by decide)) hs_jKept
  have p18 : jBook σ4 := jBook.fr (congrFun (f6 55 (by decide)) 47) (congrFun (f6 55 (by decide)) 10) (f6 81 (by decide)) hs_jBook
  refine jcallV (As := [.int (xs x2.toNatClampNeg)]) (rest := []) ⟨hx, hb, hml, hown, hts⟩ hK hP hA hS hZ (c_X12_best l D cI cL ad zz hJ σ4 τ (xs x2.toNatClampNeg) ((xs x2.toNatClampNeg).toInt) rfl I9 I10 I11 I12 I13 I14 I15 I16 p17 p18) cw_RL_72 (jc_55 cI cL ad σ4 τ) rfl ⟨Nat.le_of_ble_eq_true rfl, Nat.le_of_ble_eq_true rfl⟩ rfl rfl rfl hl.1 rfl (Nat.le_of_ble_eq_true rfl) dL_law_621 ⟨Nat.le_of_ble_eq_true rfl, Nat.le_of_ble_eq_true rfl⟩ (fun r20 σ19 τ19 H locs h19 hP hS => ?_)
  obtain ⟨rfl, f21, f22, I23, p24, p25, h19⟩ := h19
  refine lv_pop hx hb dL_law_624 rfl ?_
  refine lv_goto (tgt := 1357) hx hb dL_law_625 (by decide) ?_
  obtain ⟨x26, ex26⟩ : ∃ y : Int32, y = x0 + 6 := ⟨_, rfl⟩
  have tx26 : x26.toInt = x0.toInt + 6 := (jadd ex26 rfl jz_6 (by omega) (by omega)).trans (by omega)
  refine lv_iinc (v := x26) (lv' := [(3, .int x26), (2, .ref (ad 55)), (1, .ref (ad 0)), (0, .ref b)]) hx hb dL_law_1357 hl (k := 0) rfl (by rw [ex26]; rfl) (by decide) rfl (fun ls hl => ?_)
  refine lv_goto (tgt := 18) hx hb dL_law_1360 (by decide) ?_
  have I27 : jI2 σ19 := jI2_fr ((congrFun (f21 2 (by decide)) 0).trans (congrFun (f6 2 (by decide)) 0)) ((congrFun (f21 2 (by decide)) 1).trans (congrFun (f6 2 (by decide)) 1)) ((congrFun (f21 2 (by decide)) 2).trans (congrFun (f6 2 (by decide)) 2)) ((congrFun (f21 2 (by decide)) 3).trans (congrFun (f6 2 (by decide)) 3)) ((f21 6 (by decide)).trans (f6 6 (by decide))) hI2
  have I28 : jI9 σ19 := jI9_fr ((congrFun (f21 9 (by decide)) 0).trans (congrFun (f6 9 (by decide)) 0)) ((f21 10 (by decide)).trans (f6 10 (by decide))) ((f21 11 (by decide)).trans (f6 11 (by decide))) hI9
  have I29 : jI12 σ19 := jI12_fr ((congrFun (f21 12 (by decide)) 0).trans (congrFun (f6 12 (by decide)) 0)) ((f21 13 (by decide)).trans (f6 13 (by decide))) hI12
  have I30 : jI16 σ19 := jI16_fr ((congrFun (f21 16 (by decide)) 0).trans (congrFun (f6 16 (by decide)) 0)) ((congrFun (f21 16 (by decide)) 1).trans (congrFun (f6 16 (by decide)) 1)) ((congrFun (f21 16 (by decide)) 2).trans (congrFun (f6 16 (by decide)) 2)) ((f21 17 (by decide)).trans (f6 17 (by decide))) hI16
  have I31 : jI18 σ19 := jI18_fr ((congrFun (f21 18 (by decide)) 0).trans (congrFun (f6 18 (by decide)) 0)) ((f21 19 (by decide)).trans (f6 19 (by decide))) hI18
  have I32 : jI22 σ19 := jI22_fr ((congrFun (f21 22 (by decide)) 0).trans (congrFun (f6 22 (by decide)) 0)) ((f21 23 (by decide)).trans (f6 23 (by decide))) hI22
  have I33 : jI31 σ19 := jI31_fr (congrFun (f21 31 (by decide)) 8) (f21 33 (by decide)) (f21 36 (by decide)) I8
  have I34 : jI38 σ19 := jI38_fr ((congrFun (f21 38 (by decide)) 0).trans (congrFun (f6 38 (by decide)) 0)) ((congrFun (f21 38 (by decide)) 1).trans (congrFun (f6 38 (by decide)) 1)) ((f21 39 (by decide)).trans (f6 39 (by decide))) hI38
  have I35 : jI43 σ19 := jI43_fr ((congrFun (f21 43 (by decide)) 8).trans (congrFun (f6 43 (by decide)) 8)) hI43
  have I36 : jI47 σ19 := jI47_fr ((congrFun (f21 47 (by decide)) 0).trans (congrFun (f6 47 (by decide)) 0)) ((f21 49 (by decide)).trans (f6 49 (by decide))) hI47
  have I37 : jI50 σ19 := jI50_fr ((f21 52 (by decide)).trans (f6 52 (by decide))) hI50
  have I38 : jI101 σ19 := jI101_fr (f22 4 (by decide)) (f22 5 (by decide)) (f21 56 (by decide)) (f21 57 (by decide)) (f21 58 (by decide)) (f21 59 (by decide)) I9
  have I39 : jI102 σ19 := jI102_fr (f22 6 (by decide)) (f21 60 (by decide)) (f21 61 (by decide)) I10
  have I40 : jI103 σ19 := jI103_fr (f22 9 (by decide)) I11
  have I41 : jI104 σ19 := jI104_fr (f22 10 (by decide)) (f22 12 (by decide)) (f22 13 (by decide)) (f21 62 (by decide)) (f21 67 (by decide)) I12
  have I42 : jI105 σ19 := jI105_fr (f22 15 (by decide)) (f21 65 (by decide)) I13
  have I43 : jI106 σ19 := jI106_fr (f22 32 (by decide)) (f21 70 (by decide)) (f21 71 (by decide)) (f21 72 (by decide)) I14
  have I44 : jI107 σ19 := jI107_fr (f22 12 (by decide)) (f22 47 (by decide)) (f21 80 (by decide)) I15
  have I45 : jI109 σ19 := jI109_fr ((f22 50 (by decide)).trans (congrFun (f6 55 (by decide)) 50)) hI109
  have I46 : jI110 σ19 := jI110_fr ((f21 86 (by decide)).trans (f6 86 (by decide))) ((f21 87 (by decide)).trans (f6 87 (by decide))) hI110
  have I47 : jI111 σ19 := jI111_fr ((f21 79 (by decide)).trans (f6 79 (by decide))) hI111
  have z48 : (σ19 2 1).toInt = (σ 2 1).toInt := (congrArg Int32.toInt (show σ19 2 1 = (σ 2 1) from ((congrFun (f21 2 (by decide)) 1).trans (congrFun (f6 2 (by decide)) 1))))
  have z49 : (σ19 55 9).toInt = (σ 55 9).toInt := (congrArg Int32.toInt (show σ19 55 9 = (σ 55 9) from ((f22 9 (by decide)).trans (congrFun (f6 55 (by decide)) 9))))
  exact ih x26 σ19 τ _ _ ls (by have h9 := tx26; omega) ⟨I27, I28, I29, I30, I31, I32, I33, I34, I35, I36, I37, I38, I39, I40, I41, I42, I43, I44, I45, I46, I47, I23, p24, p25, (by omega)⟩ hP hS (lv_sub hl [0, 1, 2, 3] rfl)
set_option maxHeartbeats 4000000 in
set_option maxRecDepth 100000 in
theorem law_case_14 {p : Program} {e : Env} {s : State} {m : MethodId} {below : List Frame} {meth : Method} {c : Code} (l : Launch) {b L : Nat} {xs : Nat → Int32} {D : va_G} {cI cL : ClassId} {ad zz : Nat → Nat} (C0 : lw_At p s m meth c b L xs) (hJ : jD ad) (hA : ∀ q, jA ad q → s.heap.size ≤ q) (hK : jK D cI cL s) (hZ : jZ zz (fun q : Nat => s.heap.size ≤ q) s s.heap) {x0 : Int32} (hx0 : 0 ≤ x0.toInt) (hxL : x0.toInt + 6 ≤ (L : Int)) (hL : L ≤ 384) {σ : Nat → Nat → Int32} {τ : Nat → Nat → Int64} {H : Heap} {locs : List Loc} (hS : va_S (fun q : Nat => s.heap.size ≤ q) s.heap H locs) {ls : Array Slot} (hAll : jAll σ τ) (hP : jH D cI cL ad σ τ H) (hl : lv_has ls 4 [(3, .int x0), (2, .ref (ad 55)), (1, .ref (ad 0)), (0, .ref b)]) (ih : ∀ (x1 : Int32) (σ : Nat → Nat → Int32) (τ : Nat → Nat → Int64) (H : Heap) (locs : List Loc) (ls : Array Slot), x1.toInt = x0.toInt + 6 → jAll σ τ → jH D cI cL ad σ τ H → va_S (fun q : Nat => s.heap.size ≤ q) s.heap H locs → lv_has ls 4 [(3, .int x1), (2, .ref (ad 55)), (1, .ref (ad 0)), (0, .ref b)] → W p l e room_1 s m #[Value.ref b] below meth c H locs 90 348600 (lw_Z below #[Value.ref b] s) (F0 m 18 ls [])) : W p l e room_1 s m #[Value.ref b] below meth c H locs 90 348600 (lw_Z below #[Value.ref b] s) (F0 m 628 ls []) := by
  obtain ⟨hx, hb, hr, hml, hown, hts0, hX, hbl, hlocks, hgv⟩ := C0
  have hts : ∀ w ∈ wsL_law, w.before #[Value.ref b] s = true := fun w h => hts0 w (wsL_law_in w h)
  have hbA : ¬ (fun q : Nat => s.heap.size ≤ q) b := Nat.not_le.mpr hbl
  have hown : s.vm.findClass RL = some m.cls := hown
  obtain ⟨hI2, hI9, hI12, hI16, hI18, hI22, hI31, hI38, hI43, hI47, hI50, hI101, hI102, hI103, hI104, hI105, hI106, hI107, hI109, hI110, hI111, hI119, hs_jKept, hs_jBook, ht0⟩ := hAll
  have hL9 : (L : Int) ≤ 384 := by omega
  refine lv_aload_n hx hb dL_law_628 rfl (lv_at hl 2 rfl) ?_
  refine lv_aload_n hx hb dL_law_629 rfl (lv_at hl 3 rfl) ?_
  refine lv_iload_n hx hb dL_law_630 rfl (lv_at hl 0 rfl) ?_
  refine lv_iconst (v := 1) hx hb dL_law_631 (by decide) ?_
  have g1 := jrg (rfl : x0.toInt = x0.toInt)
  refine lv_iadd hx hb dL_law_632 ?_
  refine lv_topi (fun x2 ex2 => ?_)
  have tx2 : x2.toInt = x0.toInt + 1 := (jadd ex2 rfl jz_1 (by omega) (by omega)).trans (by omega)
  refine va_sld hx hb hX hbl hbA hS (jin tx2 (by omega) (by omega)) dL_law_633 ?_
  have g3 := jrg (rfl : (xs x2.toNatClampNeg).toInt = (xs x2.toNatClampNeg).toInt)
  refine lv_aload_n hx hb dL_law_634 rfl (lv_at hl 3 rfl) ?_
  refine lv_iload_n hx hb dL_law_635 rfl (lv_at hl 0 rfl) ?_
  refine lv_iconst (v := 2) hx hb dL_law_636 (by decide) ?_
  refine lv_iadd hx hb dL_law_637 ?_
  refine lv_topi (fun x4 ex4 => ?_)
  have tx4 : x4.toInt = x0.toInt + 2 := (jadd ex4 rfl jz_2 (by omega) (by omega)).trans (by omega)
  refine va_sld hx hb hX hbl hbA hS (jin tx4 (by omega) (by omega)) dL_law_638 ?_
  have g5 := jrg (rfl : (xs x4.toNatClampNeg).toInt = (xs x4.toNatClampNeg).toInt)
  refine jcallV (As := [.int (xs x2.toNatClampNeg), .int (xs x4.toNatClampNeg)]) (rest := []) ⟨hx, hb, hml, hown, hts⟩ hK hP hA hS hZ (c_X11_worth l D cI cL ad zz hJ σ τ (xs x2.toNatClampNeg) ((xs x2.toNatClampNeg).toInt) rfl (xs x4.toNatClampNeg) ((xs x4.toNatClampNeg).toInt) rfl hI2 hI16 hI22 hI31) cw_RL_73 (jc_0 cI cL ad σ τ) rfl ⟨Nat.le_of_ble_eq_true rfl, Nat.le_of_ble_eq_true rfl⟩ rfl rfl rfl hl.1 rfl (Nat.le_of_ble_eq_true rfl) dL_law_639 ⟨Nat.le_of_ble_eq_true rfl, Nat.le_of_ble_eq_true rfl⟩ (fun r7 σ6 τ6 H locs h6 hP hS => ?_)
  obtain ⟨rfl, f8, f9, I10, h6⟩ := h6
  refine lv_pop hx hb dL_law_642 rfl ?_
  refine lv_aload_n hx hb dL_law_643 rfl (lv_at hl 1 rfl) ?_
  refine lv_aload_n hx hb dL_law_644 rfl (lv_at hl 3 rfl) ?_
  refine lv_iload_n hx hb dL_law_645 rfl (lv_at hl 0 rfl) ?_
  refine lv_iconst (v := 1) hx hb dL_law_646 (by decide) ?_
  refine lv_iadd hx hb dL_law_647 ?_
  refine jtopr ex2.symm ?_
  refine va_sld hx hb hX hbl hbA hS (jin tx2 (by omega) (by omega)) dL_law_648 ?_
  refine lv_aload_n hx hb dL_law_649 rfl (lv_at hl 3 rfl) ?_
  refine lv_iload_n hx hb dL_law_650 rfl (lv_at hl 0 rfl) ?_
  refine lv_iconst (v := 2) hx hb dL_law_651 (by decide) ?_
  refine lv_iadd hx hb dL_law_652 ?_
  refine jtopr ex4.symm ?_
  refine va_sld hx hb hX hbl hbA hS (jin tx4 (by omega) (by omega)) dL_law_653 ?_
  have I11 : jI101 σ6 := jI101_fr (congrFun (f8 55 (by decide)) 4) (congrFun (f8 55 (by decide)) 5) (f8 56 (by decide)) (f8 57 (by decide)) (f8 58 (by decide)) (f8 59 (by decide)) hI101
  have I12 : jI102 σ6 := jI102_fr (congrFun (f8 55 (by decide)) 6) (f8 60 (by decide)) (f8 61 (by decide)) hI102
  have I13 : jI103 σ6 := jI103_fr (congrFun (f8 55 (by decide)) 9) hI103
  have I14 : jI104 σ6 := jI104_fr (congrFun (f8 55 (by decide)) 10) (congrFun (f8 55 (by decide)) 12) (congrFun (f8 55 (by decide)) 13) (f8 62 (by decide)) (f8 67 (by decide)) hI104
  have I15 : jI105 σ6 := jI105_fr (congrFun (f8 55 (by decide)) 15) (f8 65 (by decide)) hI105
  have I16 : jI106 σ6 := jI106_fr (congrFun (f8 55 (by decide)) 32) (f8 70 (by decide)) (f8 71 (by decide)) (f8 72 (by decide)) hI106
  have I17 : jI119 σ6 := jI119_fr (f8 68 (by decide)) hI119
  have p18 : jKept σ6 := jKept.fr (f8 75 (by decide)) (f8 76 (by decide)) (f8 77 (by decide)) hs_jKept
  refine jcallV (As := [.int (xs x2.toNatClampNeg), .int (xs x4.toNatClampNeg)]) (rest := []) ⟨hx, hb, hml, hown, hts⟩ hK hP hA hS hZ (c_X12_worth l D cI cL ad zz hJ σ6 τ (xs x2.toNatClampNeg) ((xs x2.toNatClampNeg).toInt) rfl (xs x4.toNatClampNeg) ((xs x4.toNatClampNeg).toInt) rfl I11 I12 I13 I14 I15 I16 I17 p18) cw_RL_76 (jc_55 cI cL ad σ6 τ) rfl ⟨Nat.le_of_ble_eq_true rfl, Nat.le_of_ble_eq_true rfl⟩ rfl rfl rfl hl.1 rfl (Nat.le_of_ble_eq_true rfl) dL_law_654 ⟨Nat.le_of_ble_eq_true rfl, Nat.le_of_ble_eq_true rfl⟩ (fun r20 σ19 τ19 H locs h19 hP hS => ?_)
  obtain ⟨rfl, f21, f22, I23, p24, h19⟩ := h19
  refine lv_pop hx hb dL_law_657 rfl ?_
  refine lv_goto (tgt := 1357) hx hb dL_law_658 (by decide) ?_
  obtain ⟨x25, ex25⟩ : ∃ y : Int32, y = x0 + 6 := ⟨_, rfl⟩
  have tx25 : x25.toInt = x0.toInt + 6 := (jadd ex25 rfl jz_6 (by omega) (by omega)).trans (by omega)
  refine lv_iinc (v := x25) (lv' := [(3, .int x25), (2, .ref (ad 55)), (1, .ref (ad 0)), (0, .ref b)]) hx hb dL_law_1357 hl (k := 0) rfl (by rw [ex25]; rfl) (by decide) rfl (fun ls hl => ?_)
  refine lv_goto (tgt := 18) hx hb dL_law_1360 (by decide) ?_
  have I26 : jI2 σ19 := jI2_fr ((congrFun (f21 2 (by decide)) 0).trans (congrFun (f8 2 (by decide)) 0)) ((congrFun (f21 2 (by decide)) 1).trans (congrFun (f8 2 (by decide)) 1)) ((congrFun (f21 2 (by decide)) 2).trans (congrFun (f8 2 (by decide)) 2)) ((congrFun (f21 2 (by decide)) 3).trans (congrFun (f8 2 (by decide)) 3)) ((f21 6 (by decide)).trans (f8 6 (by decide))) hI2
  have I27 : jI9 σ19 := jI9_fr ((congrFun (f21 9 (by decide)) 0).trans (congrFun (f8 9 (by decide)) 0)) ((f21 10 (by decide)).trans (f8 10 (by decide))) ((f21 11 (by decide)).trans (f8 11 (by decide))) hI9
  have I28 : jI12 σ19 := jI12_fr ((congrFun (f21 12 (by decide)) 0).trans (congrFun (f8 12 (by decide)) 0)) ((f21 13 (by decide)).trans (f8 13 (by decide))) hI12
  have I29 : jI16 σ19 := jI16_fr ((congrFun (f21 16 (by decide)) 0).trans (congrFun (f8 16 (by decide)) 0)) ((congrFun (f21 16 (by decide)) 1).trans (congrFun (f8 16 (by decide)) 1)) ((congrFun (f21 16 (by decide)) 2).trans (congrFun (f8 16 (by decide)) 2)) ((f21 17 (by decide)).trans (f8 17 (by decide))) hI16
  have I30 : jI18 σ19 := jI18_fr ((congrFun (f21 18 (by decide)) 0).trans (congrFun (f8 18 (by decide)) 0)) ((f21 19 (by decide)).trans (f8 19 (by decide))) hI18
  have I31 : jI22 σ19 := jI22_fr ((congrFun (f21 22 (by decide)) 0).trans (congrFun (f8 22 (by decide)) 0)) ((f21 23 (by decide)).trans (f8 23 (by decide))) hI22
  have I32 : jI31 σ19 := jI31_fr (congrFun (f21 31 (by decide)) 8) (f21 33 (by decide)) (f21 36 (by decide)) I10
  have I33 : jI38 σ19 := jI38_fr ((congrFun (f21 38 (by decide)) 0).trans (congrFun (f8 38 (by decide)) 0)) ((congrFun (f21 38 (by decide)) 1).trans (congrFun (f8 38 (by decide)) 1)) ((f21 39 (by decide)).trans (f8 39 (by decide))) hI38
  have I34 : jI43 σ19 := jI43_fr ((congrFun (f21 43 (by decide)) 8).trans (congrFun (f8 43 (by decide)) 8)) hI43
  have I35 : jI47 σ19 := jI47_fr ((congrFun (f21 47 (by decide)) 0).trans (congrFun (f8 47 (by decide)) 0)) ((f21 49 (by decide)).trans (f8 49 (by decide))) hI47
  have I36 : jI50 σ19 := jI50_fr ((f21 52 (by decide)).trans (f8 52 (by decide))) hI50
  have I37 : jI101 σ19 := jI101_fr (f22 4 (by decide)) (f22 5 (by decide)) (f21 56 (by decide)) (f21 57 (by decide)) (f21 58 (by decide)) (f21 59 (by decide)) I11
  have I38 : jI102 σ19 := jI102_fr (f22 6 (by decide)) (f21 60 (by decide)) (f21 61 (by decide)) I12
  have I39 : jI103 σ19 := jI103_fr (f22 9 (by decide)) I13
  have I40 : jI104 σ19 := jI104_fr (f22 10 (by decide)) (f22 12 (by decide)) (f22 13 (by decide)) (f21 62 (by decide)) (f21 67 (by decide)) I14
  have I41 : jI105 σ19 := jI105_fr (f22 15 (by decide)) (f21 65 (by decide)) I15
  have I42 : jI106 σ19 := jI106_fr (f22 32 (by decide)) (f21 70 (by decide)) (f21 71 (by decide)) (f21 72 (by decide)) I16
  have I43 : jI107 σ19 := jI107_fr ((f22 12 (by decide)).trans (congrFun (f8 55 (by decide)) 12)) ((f22 47 (by decide)).trans (congrFun (f8 55 (by decide)) 47)) ((f21 80 (by decide)).trans (f8 80 (by decide))) hI107
  have I44 : jI109 σ19 := jI109_fr ((f22 50 (by decide)).trans (congrFun (f8 55 (by decide)) 50)) hI109
  have I45 : jI110 σ19 := jI110_fr ((f21 86 (by decide)).trans (f8 86 (by decide))) ((f21 87 (by decide)).trans (f8 87 (by decide))) hI110
  have I46 : jI111 σ19 := jI111_fr ((f21 79 (by decide)).trans (f8 79 (by decide))) hI111
  have p47 : jBook σ19 := jBook.fr ((f22 47 (by decide)).trans (congrFun (f8 55 (by decide)) 47)) ((f22 10 (by decide)).trans (congrFun (f8 55 (by decide)) 10)) ((f21 81 (by decide)).trans (f8 81 (by decide))) hs_jBook
  have z48 : (σ19 2 1).toInt = (σ 2 1).toInt := (congrArg Int32.toInt (show σ19 2 1 = (σ 2 1) from ((congrFun (f21 2 (by decide)) 1).trans (congrFun (f8 2 (by decide)) 1))))
  have z49 : (σ19 55 9).toInt = (σ 55 9).toInt := (congrArg Int32.toInt (show σ19 55 9 = (σ 55 9) from ((f22 9 (by decide)).trans (congrFun (f8 55 (by decide)) 9))))
  exact ih x25 σ19 τ _ _ ls (by have h9 := tx25; omega) ⟨I26, I27, I28, I29, I30, I31, I32, I33, I34, I35, I36, I37, I38, I39, I40, I41, I42, I43, I44, I45, I46, I23, p24, p47, (by omega)⟩ hP hS (lv_sub hl [0, 1, 2, 3] rfl)
set_option maxHeartbeats 4000000 in
set_option maxRecDepth 100000 in
theorem law_case_15 {p : Program} {e : Env} {s : State} {m : MethodId} {below : List Frame} {meth : Method} {c : Code} (l : Launch) {b L : Nat} {xs : Nat → Int32} {D : va_G} {cI cL : ClassId} {ad zz : Nat → Nat} (C0 : lw_At p s m meth c b L xs) (hJ : jD ad) (hA : ∀ q, jA ad q → s.heap.size ≤ q) (hK : jK D cI cL s) (hZ : jZ zz (fun q : Nat => s.heap.size ≤ q) s s.heap) {x0 : Int32} (hx0 : 0 ≤ x0.toInt) (hxL : x0.toInt + 6 ≤ (L : Int)) (hL : L ≤ 384) {σ : Nat → Nat → Int32} {τ : Nat → Nat → Int64} {H : Heap} {locs : List Loc} (hS : va_S (fun q : Nat => s.heap.size ≤ q) s.heap H locs) {ls : Array Slot} (hAll : jAll σ τ) (hP : jH D cI cL ad σ τ H) (hl : lv_has ls 4 [(3, .int x0), (2, .ref (ad 55)), (1, .ref (ad 0)), (0, .ref b)]) (ih : ∀ (x1 : Int32) (σ : Nat → Nat → Int32) (τ : Nat → Nat → Int64) (H : Heap) (locs : List Loc) (ls : Array Slot), x1.toInt = x0.toInt + 6 → jAll σ τ → jH D cI cL ad σ τ H → va_S (fun q : Nat => s.heap.size ≤ q) s.heap H locs → lv_has ls 4 [(3, .int x1), (2, .ref (ad 55)), (1, .ref (ad 0)), (0, .ref b)] → W p l e room_1 s m #[Value.ref b] below meth c H locs 90 348600 (lw_Z below #[Value.ref b] s) (F0 m 18 ls [])) : W p l e room_1 s m #[Value.ref b] below meth c H locs 90 348600 (lw_Z below #[Value.ref b] s) (F0 m 661 ls []) := by
  obtain ⟨hx, hb, hr, hml, hown, hts0, hX, hbl, hlocks, hgv⟩ := C0
  have hts : ∀ w ∈ wsL_law, w.before #[Value.ref b] s = true := fun w h => hts0 w (wsL_law_in w h)
  have hbA : ¬ (fun q : Nat => s.heap.size ≤ q) b := Nat.not_le.mpr hbl
  have hown : s.vm.findClass RL = some m.cls := hown
  obtain ⟨hI2, hI9, hI12, hI16, hI18, hI22, hI31, hI38, hI43, hI47, hI50, hI101, hI102, hI103, hI104, hI105, hI106, hI107, hI109, hI110, hI111, hI119, hs_jKept, hs_jBook, ht0⟩ := hAll
  have hL9 : (L : Int) ≤ 384 := by omega
  refine lv_aload_n hx hb dL_law_661 rfl (lv_at hl 2 rfl) ?_
  refine lv_aload_n hx hb dL_law_662 rfl (lv_at hl 3 rfl) ?_
  refine lv_iload_n hx hb dL_law_663 rfl (lv_at hl 0 rfl) ?_
  refine lv_iconst (v := 1) hx hb dL_law_664 (by decide) ?_
  have g1 := jrg (rfl : x0.toInt = x0.toInt)
  refine lv_iadd hx hb dL_law_665 ?_
  refine lv_topi (fun x2 ex2 => ?_)
  have tx2 : x2.toInt = x0.toInt + 1 := (jadd ex2 rfl jz_1 (by omega) (by omega)).trans (by omega)
  refine va_sld hx hb hX hbl hbA hS (jin tx2 (by omega) (by omega)) dL_law_666 ?_
  have g3 := jrg (rfl : (xs x2.toNatClampNeg).toInt = (xs x2.toNatClampNeg).toInt)
  refine lv_aload_n hx hb dL_law_667 rfl (lv_at hl 3 rfl) ?_
  refine lv_iload_n hx hb dL_law_668 rfl (lv_at hl 0 rfl) ?_
  refine lv_iconst (v := 2) hx hb dL_law_669 (by decide) ?_
  refine lv_iadd hx hb dL_law_670 ?_
  refine lv_topi (fun x4 ex4 => ?_)
  have tx4 : x4.toInt = x0.toInt + 2 := (jadd ex4 rfl jz_2 (by omega) (by omega)).trans (by omega)
  refine va_sld hx hb hX hbl hbA hS (jin tx4 (by omega) (by omega)) dL_law_671 ?_
  have g5 := jrg (rfl : (xs x4.toNatClampNeg).toInt = (xs x4.toNatClampNeg).toInt)
  refine jcallV (As := [.int (xs x2.toNatClampNeg), .int (xs x4.toNatClampNeg)]) (rest := []) ⟨hx, hb, hml, hown, hts⟩ hK hP hA hS hZ (c_X11_fielded l D cI cL ad zz hJ σ τ (xs x2.toNatClampNeg) ((xs x2.toNatClampNeg).toInt) rfl (xs x4.toNatClampNeg) ((xs x4.toNatClampNeg).toInt) rfl hI2 hI16 hI22 hI31) cw_RL_77 (jc_0 cI cL ad σ τ) rfl ⟨Nat.le_of_ble_eq_true rfl, Nat.le_of_ble_eq_true rfl⟩ rfl rfl rfl hl.1 rfl (Nat.le_of_ble_eq_true rfl) dL_law_672 ⟨Nat.le_of_ble_eq_true rfl, Nat.le_of_ble_eq_true rfl⟩ (fun r7 σ6 τ6 H locs h6 hP hS => ?_)
  obtain ⟨rfl, f8, f9, I10, h6⟩ := h6
  refine lv_pop hx hb dL_law_675 rfl ?_
  refine lv_aload_n hx hb dL_law_676 rfl (lv_at hl 1 rfl) ?_
  refine lv_aload_n hx hb dL_law_677 rfl (lv_at hl 3 rfl) ?_
  refine lv_iload_n hx hb dL_law_678 rfl (lv_at hl 0 rfl) ?_
  refine lv_iconst (v := 1) hx hb dL_law_679 (by decide) ?_
  refine lv_iadd hx hb dL_law_680 ?_
  refine jtopr ex2.symm ?_
  refine va_sld hx hb hX hbl hbA hS (jin tx2 (by omega) (by omega)) dL_law_681 ?_
  refine lv_aload_n hx hb dL_law_682 rfl (lv_at hl 3 rfl) ?_
  refine lv_iload_n hx hb dL_law_683 rfl (lv_at hl 0 rfl) ?_
  refine lv_iconst (v := 2) hx hb dL_law_684 (by decide) ?_
  refine lv_iadd hx hb dL_law_685 ?_
  refine jtopr ex4.symm ?_
  refine va_sld hx hb hX hbl hbA hS (jin tx4 (by omega) (by omega)) dL_law_686 ?_
  have I11 : jI101 σ6 := jI101_fr (congrFun (f8 55 (by decide)) 4) (congrFun (f8 55 (by decide)) 5) (f8 56 (by decide)) (f8 57 (by decide)) (f8 58 (by decide)) (f8 59 (by decide)) hI101
  have I12 : jI102 σ6 := jI102_fr (congrFun (f8 55 (by decide)) 6) (f8 60 (by decide)) (f8 61 (by decide)) hI102
  have I13 : jI103 σ6 := jI103_fr (congrFun (f8 55 (by decide)) 9) hI103
  have I14 : jI104 σ6 := jI104_fr (congrFun (f8 55 (by decide)) 10) (congrFun (f8 55 (by decide)) 12) (congrFun (f8 55 (by decide)) 13) (f8 62 (by decide)) (f8 67 (by decide)) hI104
  have I15 : jI105 σ6 := jI105_fr (congrFun (f8 55 (by decide)) 15) (f8 65 (by decide)) hI105
  have I16 : jI106 σ6 := jI106_fr (congrFun (f8 55 (by decide)) 32) (f8 70 (by decide)) (f8 71 (by decide)) (f8 72 (by decide)) hI106
  have I17 : jI119 σ6 := jI119_fr (f8 68 (by decide)) hI119
  have p18 : jKept σ6 := jKept.fr (f8 75 (by decide)) (f8 76 (by decide)) (f8 77 (by decide)) hs_jKept
  have z19 : (σ6 55 9).toInt = (σ 55 9).toInt := (congrArg Int32.toInt (show σ6 55 9 = (σ 55 9) from (congrFun (f8 55 (by decide)) 9)))
  refine jcallV (As := [.int (xs x2.toNatClampNeg), .int (xs x4.toNatClampNeg)]) (rest := []) ⟨hx, hb, hml, hown, hts⟩ hK hP hA hS hZ (c_X12_fielded l D cI cL ad zz hJ σ6 τ (xs x2.toNatClampNeg) ((xs x2.toNatClampNeg).toInt) rfl (xs x4.toNatClampNeg) ((xs x4.toNatClampNeg).toInt) rfl I11 I12 I13 I14 I15 I16 I17 p18) cw_RL_80 (jc_55 cI cL ad σ6 τ) rfl ⟨Nat.le_of_ble_eq_true rfl, Nat.le_of_ble_eq_true rfl⟩ rfl rfl rfl hl.1 rfl (Nat.le_of_ble_eq_true rfl) dL_law_687 ⟨Nat.le_of_ble_eq_true rfl, Nat.le_of_ble_eq_true rfl⟩ (fun r21 σ20 τ20 H locs h20 hP hS => ?_)
  obtain ⟨rfl, f22, f23, I24, I25, p26, h20⟩ := h20
  obtain ⟨k27, h20⟩ := h20
  refine lv_pop hx hb dL_law_690 rfl ?_
  refine lv_goto (tgt := 1357) hx hb dL_law_691 (by decide) ?_
  obtain ⟨x28, ex28⟩ : ∃ y : Int32, y = x0 + 6 := ⟨_, rfl⟩
  have tx28 : x28.toInt = x0.toInt + 6 := (jadd ex28 rfl jz_6 (by omega) (by omega)).trans (by omega)
  refine lv_iinc (v := x28) (lv' := [(3, .int x28), (2, .ref (ad 55)), (1, .ref (ad 0)), (0, .ref b)]) hx hb dL_law_1357 hl (k := 0) rfl (by rw [ex28]; rfl) (by decide) rfl (fun ls hl => ?_)
  refine lv_goto (tgt := 18) hx hb dL_law_1360 (by decide) ?_
  have I29 : jI2 σ20 := jI2_fr ((congrFun (f22 2 (by decide)) 0).trans (congrFun (f8 2 (by decide)) 0)) ((congrFun (f22 2 (by decide)) 1).trans (congrFun (f8 2 (by decide)) 1)) ((congrFun (f22 2 (by decide)) 2).trans (congrFun (f8 2 (by decide)) 2)) ((congrFun (f22 2 (by decide)) 3).trans (congrFun (f8 2 (by decide)) 3)) ((f22 6 (by decide)).trans (f8 6 (by decide))) hI2
  have I30 : jI9 σ20 := jI9_fr ((congrFun (f22 9 (by decide)) 0).trans (congrFun (f8 9 (by decide)) 0)) ((f22 10 (by decide)).trans (f8 10 (by decide))) ((f22 11 (by decide)).trans (f8 11 (by decide))) hI9
  have I31 : jI12 σ20 := jI12_fr ((congrFun (f22 12 (by decide)) 0).trans (congrFun (f8 12 (by decide)) 0)) ((f22 13 (by decide)).trans (f8 13 (by decide))) hI12
  have I32 : jI16 σ20 := jI16_fr ((congrFun (f22 16 (by decide)) 0).trans (congrFun (f8 16 (by decide)) 0)) ((congrFun (f22 16 (by decide)) 1).trans (congrFun (f8 16 (by decide)) 1)) ((congrFun (f22 16 (by decide)) 2).trans (congrFun (f8 16 (by decide)) 2)) ((f22 17 (by decide)).trans (f8 17 (by decide))) hI16
  have I33 : jI18 σ20 := jI18_fr ((congrFun (f22 18 (by decide)) 0).trans (congrFun (f8 18 (by decide)) 0)) ((f22 19 (by decide)).trans (f8 19 (by decide))) hI18
  have I34 : jI22 σ20 := jI22_fr ((congrFun (f22 22 (by decide)) 0).trans (congrFun (f8 22 (by decide)) 0)) ((f22 23 (by decide)).trans (f8 23 (by decide))) hI22
  have I35 : jI31 σ20 := jI31_fr (congrFun (f22 31 (by decide)) 8) (f22 33 (by decide)) (f22 36 (by decide)) I10
  have I36 : jI38 σ20 := jI38_fr ((congrFun (f22 38 (by decide)) 0).trans (congrFun (f8 38 (by decide)) 0)) ((congrFun (f22 38 (by decide)) 1).trans (congrFun (f8 38 (by decide)) 1)) ((f22 39 (by decide)).trans (f8 39 (by decide))) hI38
  have I37 : jI43 σ20 := jI43_fr ((congrFun (f22 43 (by decide)) 8).trans (congrFun (f8 43 (by decide)) 8)) hI43
  have I38 : jI47 σ20 := jI47_fr ((congrFun (f22 47 (by decide)) 0).trans (congrFun (f8 47 (by decide)) 0)) ((f22 49 (by decide)).trans (f8 49 (by decide))) hI47
  have I39 : jI50 σ20 := jI50_fr ((f22 52 (by decide)).trans (f8 52 (by decide))) hI50
  have I40 : jI101 σ20 := jI101_fr (f23 4 (by decide)) (f23 5 (by decide)) (f22 56 (by decide)) (f22 57 (by decide)) (f22 58 (by decide)) (f22 59 (by decide)) I11
  have I41 : jI102 σ20 := jI102_fr (f23 6 (by decide)) (f22 60 (by decide)) (f22 61 (by decide)) I12
  have I42 : jI104 σ20 := jI104_fr (f23 10 (by decide)) (f23 12 (by decide)) (f23 13 (by decide)) (f22 62 (by decide)) (f22 67 (by decide)) I14
  have I43 : jI105 σ20 := jI105_fr (f23 15 (by decide)) (f22 65 (by decide)) I15
  have I44 : jI106 σ20 := jI106_fr (f23 32 (by decide)) (f22 70 (by decide)) (f22 71 (by decide)) (f22 72 (by decide)) I16
  have I45 : jI107 σ20 := jI107_fr ((f23 12 (by decide)).trans (congrFun (f8 55 (by decide)) 12)) ((f23 47 (by decide)).trans (congrFun (f8 55 (by decide)) 47)) ((f22 80 (by decide)).trans (f8 80 (by decide))) hI107
  have I46 : jI109 σ20 := jI109_fr ((f23 50 (by decide)).trans (congrFun (f8 55 (by decide)) 50)) hI109
  have I47 : jI110 σ20 := jI110_fr ((f22 86 (by decide)).trans (f8 86 (by decide))) ((f22 87 (by decide)).trans (f8 87 (by decide))) hI110
  have I48 : jI111 σ20 := jI111_fr ((f22 79 (by decide)).trans (f8 79 (by decide))) hI111
  have p49 : jBook σ20 := jBook.fr ((f23 47 (by decide)).trans (congrFun (f8 55 (by decide)) 47)) ((f23 10 (by decide)).trans (congrFun (f8 55 (by decide)) 10)) ((f22 81 (by decide)).trans (f8 81 (by decide))) hs_jBook
  have z50 : (σ20 2 1).toInt = (σ 2 1).toInt := (congrArg Int32.toInt (show σ20 2 1 = (σ 2 1) from ((congrFun (f22 2 (by decide)) 1).trans (congrFun (f8 2 (by decide)) 1))))
  exact ih x28 σ20 τ _ _ ls (by have h9 := tx28; omega) ⟨I29, I30, I31, I32, I33, I34, I35, I36, I37, I38, I39, I40, I41, I24, I42, I43, I44, I45, I46, I47, I48, I25, p26, p49, (by omega)⟩ hP hS (lv_sub hl [0, 1, 2, 3] rfl)
set_option maxHeartbeats 4000000 in
set_option maxRecDepth 100000 in
theorem law_case_16 {p : Program} {e : Env} {s : State} {m : MethodId} {below : List Frame} {meth : Method} {c : Code} (l : Launch) {b L : Nat} {xs : Nat → Int32} {D : va_G} {cI cL : ClassId} {ad zz : Nat → Nat} (C0 : lw_At p s m meth c b L xs) (hJ : jD ad) (hA : ∀ q, jA ad q → s.heap.size ≤ q) (hK : jK D cI cL s) (hZ : jZ zz (fun q : Nat => s.heap.size ≤ q) s s.heap) {x0 : Int32} (hx0 : 0 ≤ x0.toInt) (hxL : x0.toInt + 6 ≤ (L : Int)) (hL : L ≤ 384) {σ : Nat → Nat → Int32} {τ : Nat → Nat → Int64} {H : Heap} {locs : List Loc} (hS : va_S (fun q : Nat => s.heap.size ≤ q) s.heap H locs) {ls : Array Slot} (hAll : jAll σ τ) (hP : jH D cI cL ad σ τ H) (hl : lv_has ls 4 [(3, .int x0), (2, .ref (ad 55)), (1, .ref (ad 0)), (0, .ref b)]) (ih : ∀ (x1 : Int32) (σ : Nat → Nat → Int32) (τ : Nat → Nat → Int64) (H : Heap) (locs : List Loc) (ls : Array Slot), x1.toInt = x0.toInt + 6 → jAll σ τ → jH D cI cL ad σ τ H → va_S (fun q : Nat => s.heap.size ≤ q) s.heap H locs → lv_has ls 4 [(3, .int x1), (2, .ref (ad 55)), (1, .ref (ad 0)), (0, .ref b)] → W p l e room_1 s m #[Value.ref b] below meth c H locs 90 348600 (lw_Z below #[Value.ref b] s) (F0 m 18 ls [])) : W p l e room_1 s m #[Value.ref b] below meth c H locs 90 348600 (lw_Z below #[Value.ref b] s) (F0 m 694 ls []) := by
  obtain ⟨hx, hb, hr, hml, hown, hts0, hX, hbl, hlocks, hgv⟩ := C0
  have hts : ∀ w ∈ wsL_law, w.before #[Value.ref b] s = true := fun w h => hts0 w (wsL_law_in w h)
  have hbA : ¬ (fun q : Nat => s.heap.size ≤ q) b := Nat.not_le.mpr hbl
  have hown : s.vm.findClass RL = some m.cls := hown
  obtain ⟨hI2, hI9, hI12, hI16, hI18, hI22, hI31, hI38, hI43, hI47, hI50, hI101, hI102, hI103, hI104, hI105, hI106, hI107, hI109, hI110, hI111, hI119, hs_jKept, hs_jBook, ht0⟩ := hAll
  have hL9 : (L : Int) ≤ 384 := by omega
  refine lv_aload_n hx hb dL_law_694 rfl (lv_at hl 2 rfl) ?_
  refine lv_aload_n hx hb dL_law_695 rfl (lv_at hl 3 rfl) ?_
  refine lv_iload_n hx hb dL_law_696 rfl (lv_at hl 0 rfl) ?_
  refine lv_iconst (v := 1) hx hb dL_law_697 (by decide) ?_
  have g1 := jrg (rfl : x0.toInt = x0.toInt)
  refine lv_iadd hx hb dL_law_698 ?_
  refine lv_topi (fun x2 ex2 => ?_)
  have tx2 : x2.toInt = x0.toInt + 1 := (jadd ex2 rfl jz_1 (by omega) (by omega)).trans (by omega)
  refine va_sld hx hb hX hbl hbA hS (jin tx2 (by omega) (by omega)) dL_law_699 ?_
  have g3 := jrg (rfl : (xs x2.toNatClampNeg).toInt = (xs x2.toNatClampNeg).toInt)
  refine jcallV (As := [.int (xs x2.toNatClampNeg)]) (rest := []) ⟨hx, hb, hml, hown, hts⟩ hK hP hA hS hZ (c_X11_kept l D cI cL ad zz hJ σ τ (xs x2.toNatClampNeg) ((xs x2.toNatClampNeg).toInt) rfl hI2 hI16 hI22 hI31) cw_RL_81 (jc_0 cI cL ad σ τ) rfl ⟨Nat.le_of_ble_eq_true rfl, Nat.le_of_ble_eq_true rfl⟩ rfl rfl rfl hl.1 rfl (Nat.le_of_ble_eq_true rfl) dL_law_700 ⟨Nat.le_of_ble_eq_true rfl, Nat.le_of_ble_eq_true rfl⟩ (fun r5 σ4 τ4 H locs h4 hP hS => ?_)
  obtain ⟨rfl, f6, f7, I8, h4⟩ := h4
  refine lv_pop hx hb dL_law_703 rfl ?_
  refine lv_aload_n hx hb dL_law_704 rfl (lv_at hl 1 rfl) ?_
  refine lv_aload_n hx hb dL_law_705 rfl (lv_at hl 3 rfl) ?_
  refine lv_iload_n hx hb dL_law_706 rfl (lv_at hl 0 rfl) ?_
  refine lv_iconst (v := 1) hx hb dL_law_707 (by decide) ?_
  refine lv_iadd hx hb dL_law_708 ?_
  refine jtopr ex2.symm ?_
  refine va_sld hx hb hX hbl hbA hS (jin tx2 (by omega) (by omega)) dL_law_709 ?_
  have I9 : jI101 σ4 := jI101_fr (congrFun (f6 55 (by decide)) 4) (congrFun (f6 55 (by decide)) 5) (f6 56 (by decide)) (f6 57 (by decide)) (f6 58 (by decide)) (f6 59 (by decide)) hI101
  have I10 : jI102 σ4 := jI102_fr (congrFun (f6 55 (by decide)) 6) (f6 60 (by decide)) (f6 61 (by decide)) hI102
  have I11 : jI103 σ4 := jI103_fr (congrFun (f6 55 (by decide)) 9) hI103
  have I12 : jI104 σ4 := jI104_fr (congrFun (f6 55 (by decide)) 10) (congrFun (f6 55 (by decide)) 12) (congrFun (f6 55 (by decide)) 13) (f6 62 (by decide)) (f6 67 (by decide)) hI104
  have I13 : jI105 σ4 := jI105_fr (congrFun (f6 55 (by decide)) 15) (f6 65 (by decide)) hI105
  have I14 : jI106 σ4 := jI106_fr (congrFun (f6 55 (by decide)) 32) (f6 70 (by decide)) (f6 71 (by decide)) (f6 72 (by decide)) hI106
  have I15 : jI119 σ4 := jI119_fr (f6 68 (by decide)) hI119
  have p16 : jKept σ4 := jKept.fr (f6 75 (by decide)) (f6 76 (by decide)) (f6 77 (by decide)) hs_jKept
  refine jcallV (As := [.int (xs x2.toNatClampNeg)]) (rest := []) ⟨hx, hb, hml, hown, hts⟩ hK hP hA hS hZ (c_X12_kept l D cI cL ad zz hJ σ4 τ (xs x2.toNatClampNeg) ((xs x2.toNatClampNeg).toInt) rfl I9 I10 I11 I12 I13 I14 I15 p16) cw_RL_84 (jc_55 cI cL ad σ4 τ) rfl ⟨Nat.le_of_ble_eq_true rfl, Nat.le_of_ble_eq_true rfl⟩ rfl rfl rfl hl.1 rfl (Nat.le_of_ble_eq_true rfl) dL_law_710 ⟨Nat.le_of_ble_eq_true rfl, Nat.le_of_ble_eq_true rfl⟩ (fun r18 σ17 τ17 H locs h17 hP hS => ?_)
  obtain ⟨rfl, f19, f20, I21, p22, h17⟩ := h17
  refine lv_pop hx hb dL_law_713 rfl ?_
  refine lv_goto (tgt := 1357) hx hb dL_law_714 (by decide) ?_
  obtain ⟨x23, ex23⟩ : ∃ y : Int32, y = x0 + 6 := ⟨_, rfl⟩
  have tx23 : x23.toInt = x0.toInt + 6 := (jadd ex23 rfl jz_6 (by omega) (by omega)).trans (by omega)
  refine lv_iinc (v := x23) (lv' := [(3, .int x23), (2, .ref (ad 55)), (1, .ref (ad 0)), (0, .ref b)]) hx hb dL_law_1357 hl (k := 0) rfl (by rw [ex23]; rfl) (by decide) rfl (fun ls hl => ?_)
  refine lv_goto (tgt := 18) hx hb dL_law_1360 (by decide) ?_
  have I24 : jI2 σ17 := jI2_fr ((congrFun (f19 2 (by decide)) 0).trans (congrFun (f6 2 (by decide)) 0)) ((congrFun (f19 2 (by decide)) 1).trans (congrFun (f6 2 (by decide)) 1)) ((congrFun (f19 2 (by decide)) 2).trans (congrFun (f6 2 (by decide)) 2)) ((congrFun (f19 2 (by decide)) 3).trans (congrFun (f6 2 (by decide)) 3)) ((f19 6 (by decide)).trans (f6 6 (by decide))) hI2
  have I25 : jI9 σ17 := jI9_fr ((congrFun (f19 9 (by decide)) 0).trans (congrFun (f6 9 (by decide)) 0)) ((f19 10 (by decide)).trans (f6 10 (by decide))) ((f19 11 (by decide)).trans (f6 11 (by decide))) hI9
  have I26 : jI12 σ17 := jI12_fr ((congrFun (f19 12 (by decide)) 0).trans (congrFun (f6 12 (by decide)) 0)) ((f19 13 (by decide)).trans (f6 13 (by decide))) hI12
  have I27 : jI16 σ17 := jI16_fr ((congrFun (f19 16 (by decide)) 0).trans (congrFun (f6 16 (by decide)) 0)) ((congrFun (f19 16 (by decide)) 1).trans (congrFun (f6 16 (by decide)) 1)) ((congrFun (f19 16 (by decide)) 2).trans (congrFun (f6 16 (by decide)) 2)) ((f19 17 (by decide)).trans (f6 17 (by decide))) hI16
  have I28 : jI18 σ17 := jI18_fr ((congrFun (f19 18 (by decide)) 0).trans (congrFun (f6 18 (by decide)) 0)) ((f19 19 (by decide)).trans (f6 19 (by decide))) hI18
  have I29 : jI22 σ17 := jI22_fr ((congrFun (f19 22 (by decide)) 0).trans (congrFun (f6 22 (by decide)) 0)) ((f19 23 (by decide)).trans (f6 23 (by decide))) hI22
  have I30 : jI31 σ17 := jI31_fr (congrFun (f19 31 (by decide)) 8) (f19 33 (by decide)) (f19 36 (by decide)) I8
  have I31 : jI38 σ17 := jI38_fr ((congrFun (f19 38 (by decide)) 0).trans (congrFun (f6 38 (by decide)) 0)) ((congrFun (f19 38 (by decide)) 1).trans (congrFun (f6 38 (by decide)) 1)) ((f19 39 (by decide)).trans (f6 39 (by decide))) hI38
  have I32 : jI43 σ17 := jI43_fr ((congrFun (f19 43 (by decide)) 8).trans (congrFun (f6 43 (by decide)) 8)) hI43
  have I33 : jI47 σ17 := jI47_fr ((congrFun (f19 47 (by decide)) 0).trans (congrFun (f6 47 (by decide)) 0)) ((f19 49 (by decide)).trans (f6 49 (by decide))) hI47
  have I34 : jI50 σ17 := jI50_fr ((f19 52 (by decide)).trans (f6 52 (by decide))) hI50
  have I35 : jI101 σ17 := jI101_fr (f20 4 (by decide)) (f20 5 (by decide)) (f19 56 (by decide)) (f19 57 (by decide)) (f19 58 (by decide)) (f19 59 (by decide)) I9
  have I36 : jI102 σ17 := jI102_fr (f20 6 (by decide)) (f19 60 (by decide)) (f19 61 (by decide)) I10
  have I37 : jI103 σ17 := jI103_fr (f20 9 (by decide)) I11
  have I38 : jI104 σ17 := jI104_fr (f20 10 (by decide)) (f20 12 (by decide)) (f20 13 (by decide)) (f19 62 (by decide)) (f19 67 (by decide)) I12
  have I39 : jI105 σ17 := jI105_fr (f20 15 (by decide)) (f19 65 (by decide)) I13
  have I40 : jI106 σ17 := jI106_fr (f20 32 (by decide)) (f19 70 (by decide)) (f19 71 (by decide)) (f19 72 (by decide)) I14
  have I41 : jI107 σ17 := jI107_fr ((f20 12 (by decide)).trans (congrFun (f6 55 (by decide)) 12)) ((f20 47 (by decide)).trans (congrFun (f6 55 (by decide)) 47)) ((f19 80 (by decide)).trans (f6 80 (by decide))) hI107
  have I42 : jI109 σ17 := jI109_fr ((f20 50 (by decide)).trans (congrFun (f6 55 (by decide)) 50)) hI109
  have I43 : jI110 σ17 := jI110_fr ((f19 86 (by decide)).trans (f6 86 (by decide))) ((f19 87 (by decide)).trans (f6 87 (by decide))) hI110
  have I44 : jI111 σ17 := jI111_fr ((f19 79 (by decide)).trans (f6 79 (by decide))) hI111
  have p45 : jBook σ17 := jBook.fr ((f20 47 (by decide)).trans (congrFun (f6 55 (by decide)) 47)) ((f20 10 (by decide)).trans (congrFun (f6 55 (by decide)) 10)) ((f19 81 (by decide)).trans (f6 81 (by decide))) hs_jBook
  have z46 : (σ17 2 1).toInt = (σ 2 1).toInt := (congrArg Int32.toInt (show σ17 2 1 = (σ 2 1) from ((congrFun (f19 2 (by decide)) 1).trans (congrFun (f6 2 (by decide)) 1))))
  have z47 : (σ17 55 9).toInt = (σ 55 9).toInt := (congrArg Int32.toInt (show σ17 55 9 = (σ 55 9) from ((f20 9 (by decide)).trans (congrFun (f6 55 (by decide)) 9))))
  exact ih x23 σ17 τ _ _ ls (by have h9 := tx23; omega) ⟨I24, I25, I26, I27, I28, I29, I30, I31, I32, I33, I34, I35, I36, I37, I38, I39, I40, I41, I42, I43, I44, I21, p22, p45, (by omega)⟩ hP hS (lv_sub hl [0, 1, 2, 3] rfl)
set_option maxHeartbeats 4000000 in
set_option maxRecDepth 100000 in
theorem law_case_17 {p : Program} {e : Env} {s : State} {m : MethodId} {below : List Frame} {meth : Method} {c : Code} (l : Launch) {b L : Nat} {xs : Nat → Int32} {D : va_G} {cI cL : ClassId} {ad zz : Nat → Nat} (C0 : lw_At p s m meth c b L xs) (hJ : jD ad) (hA : ∀ q, jA ad q → s.heap.size ≤ q) (hK : jK D cI cL s) (hZ : jZ zz (fun q : Nat => s.heap.size ≤ q) s s.heap) {x0 : Int32} (hx0 : 0 ≤ x0.toInt) (hxL : x0.toInt + 6 ≤ (L : Int)) (hL : L ≤ 384) {σ : Nat → Nat → Int32} {τ : Nat → Nat → Int64} {H : Heap} {locs : List Loc} (hS : va_S (fun q : Nat => s.heap.size ≤ q) s.heap H locs) {ls : Array Slot} (hAll : jAll σ τ) (hP : jH D cI cL ad σ τ H) (hl : lv_has ls 4 [(3, .int x0), (2, .ref (ad 55)), (1, .ref (ad 0)), (0, .ref b)]) (ih : ∀ (x1 : Int32) (σ : Nat → Nat → Int32) (τ : Nat → Nat → Int64) (H : Heap) (locs : List Loc) (ls : Array Slot), x1.toInt = x0.toInt + 6 → jAll σ τ → jH D cI cL ad σ τ H → va_S (fun q : Nat => s.heap.size ≤ q) s.heap H locs → lv_has ls 4 [(3, .int x1), (2, .ref (ad 55)), (1, .ref (ad 0)), (0, .ref b)] → W p l e room_1 s m #[Value.ref b] below meth c H locs 90 348600 (lw_Z below #[Value.ref b] s) (F0 m 18 ls [])) : W p l e room_1 s m #[Value.ref b] below meth c H locs 90 348600 (lw_Z below #[Value.ref b] s) (F0 m 717 ls []) := by
  obtain ⟨hx, hb, hr, hml, hown, hts0, hX, hbl, hlocks, hgv⟩ := C0
  have hts : ∀ w ∈ wsL_law, w.before #[Value.ref b] s = true := fun w h => hts0 w (wsL_law_in w h)
  have hbA : ¬ (fun q : Nat => s.heap.size ≤ q) b := Nat.not_le.mpr hbl
  have hown : s.vm.findClass RL = some m.cls := hown
  obtain ⟨hI2, hI9, hI12, hI16, hI18, hI22, hI31, hI38, hI43, hI47, hI50, hI101, hI102, hI103, hI104, hI105, hI106, hI107, hI109, hI110, hI111, hI119, hs_jKept, hs_jBook, ht0⟩ := hAll
  have hL9 : (L : Int) ≤ 384 := by omega
  refine lv_aload_n hx hb dL_law_717 rfl (lv_at hl 2 rfl) ?_
  refine lv_aload_n hx hb dL_law_718 rfl (lv_at hl 3 rfl) ?_
  refine lv_iload_n hx hb dL_law_719 rfl (lv_at hl 0 rfl) ?_
  refine lv_iconst (v := 1) hx hb dL_law_720 (by decide) ?_
  have g1 := jrg (rfl : x0.toInt = x0.toInt)
  refine lv_iadd hx hb dL_law_721 ?_
  refine lv_topi (fun x2 ex2 => ?_)
  have tx2 : x2.toInt = x0.toInt + 1 := (jadd ex2 rfl jz_1 (by omega) (by omega)).trans (by omega)
  refine va_sld hx hb hX hbl hbA hS (jin tx2 (by omega) (by omega)) dL_law_722 ?_
  have g3 := jrg (rfl : (xs x2.toNatClampNeg).toInt = (xs x2.toNatClampNeg).toInt)
  refine jcallV (As := [.int (xs x2.toNatClampNeg)]) (rest := []) ⟨hx, hb, hml, hown, hts⟩ hK hP hA hS hZ (c_X11_theirs l D cI cL ad zz hJ σ τ (xs x2.toNatClampNeg) ((xs x2.toNatClampNeg).toInt) rfl hI2 hI16 hI22 hI31) cw_RL_85 (jc_0 cI cL ad σ τ) rfl ⟨Nat.le_of_ble_eq_true rfl, Nat.le_of_ble_eq_true rfl⟩ rfl rfl rfl hl.1 rfl (Nat.le_of_ble_eq_true rfl) dL_law_723 ⟨Nat.le_of_ble_eq_true rfl, Nat.le_of_ble_eq_true rfl⟩ (fun r5 σ4 τ4 H locs h4 hP hS => ?_)
  obtain ⟨rfl, f6, f7, I8, h4⟩ := h4
  refine lv_pop hx hb dL_law_726 rfl ?_
  refine lv_aload_n hx hb dL_law_727 rfl (lv_at hl 1 rfl) ?_
  refine lv_aload_n hx hb dL_law_728 rfl (lv_at hl 3 rfl) ?_
  refine lv_iload_n hx hb dL_law_729 rfl (lv_at hl 0 rfl) ?_
  refine lv_iconst (v := 1) hx hb dL_law_730 (by decide) ?_
  refine lv_iadd hx hb dL_law_731 ?_
  refine jtopr ex2.symm ?_
  refine va_sld hx hb hX hbl hbA hS (jin tx2 (by omega) (by omega)) dL_law_732 ?_
  have I9 : jI101 σ4 := jI101_fr (congrFun (f6 55 (by decide)) 4) (congrFun (f6 55 (by decide)) 5) (f6 56 (by decide)) (f6 57 (by decide)) (f6 58 (by decide)) (f6 59 (by decide)) hI101
  have I10 : jI102 σ4 := jI102_fr (congrFun (f6 55 (by decide)) 6) (f6 60 (by decide)) (f6 61 (by decide)) hI102
  have I11 : jI103 σ4 := jI103_fr (congrFun (f6 55 (by decide)) 9) hI103
  have I12 : jI104 σ4 := jI104_fr (congrFun (f6 55 (by decide)) 10) (congrFun (f6 55 (by decide)) 12) (congrFun (f6 55 (by decide)) 13) (f6 62 (by decide)) (f6 67 (by decide)) hI104
  have I13 : jI105 σ4 := jI105_fr (congrFun (f6 55 (by decide)) 15) (f6 65 (by decide)) hI105
  have I14 : jI106 σ4 := jI106_fr (congrFun (f6 55 (by decide)) 32) (f6 70 (by decide)) (f6 71 (by decide)) (f6 72 (by decide)) hI106
  have I15 : jI119 σ4 := jI119_fr (f6 68 (by decide)) hI119
  have I16 : jI111 σ4 := jI111_fr (f6 79 (by decide)) hI111
  have p17 : jKept σ4 := jKept.fr (f6 75 (by decide)) (f6 76 (by decide)) (f6 77 (by decide)) hs_jKept
  refine jcallV (As := [.int (xs x2.toNatClampNeg)]) (rest := []) ⟨hx, hb, hml, hown, hts⟩ hK hP hA hS hZ (c_X12_theirs l D cI cL ad zz hJ σ4 τ (xs x2.toNatClampNeg) ((xs x2.toNatClampNeg).toInt) rfl I9 I10 I11 I12 I13 I14 I15 I16 p17) cw_RL_88 (jc_55 cI cL ad σ4 τ) rfl ⟨Nat.le_of_ble_eq_true rfl, Nat.le_of_ble_eq_true rfl⟩ rfl rfl rfl hl.1 rfl (Nat.le_of_ble_eq_true rfl) dL_law_733 ⟨Nat.le_of_ble_eq_true rfl, Nat.le_of_ble_eq_true rfl⟩ (fun r19 σ18 τ18 H locs h18 hP hS => ?_)
  obtain ⟨rfl, f20, f21, I22, I23, I24, p25, h18⟩ := h18
  refine lv_pop hx hb dL_law_736 rfl ?_
  refine lv_goto (tgt := 1357) hx hb dL_law_737 (by decide) ?_
  obtain ⟨x26, ex26⟩ : ∃ y : Int32, y = x0 + 6 := ⟨_, rfl⟩
  have tx26 : x26.toInt = x0.toInt + 6 := (jadd ex26 rfl jz_6 (by omega) (by omega)).trans (by omega)
  refine lv_iinc (v := x26) (lv' := [(3, .int x26), (2, .ref (ad 55)), (1, .ref (ad 0)), (0, .ref b)]) hx hb dL_law_1357 hl (k := 0) rfl (by rw [ex26]; rfl) (by decide) rfl (fun ls hl => ?_)
  refine lv_goto (tgt := 18) hx hb dL_law_1360 (by decide) ?_
  have I27 : jI2 σ18 := jI2_fr ((congrFun (f20 2 (by decide)) 0).trans (congrFun (f6 2 (by decide)) 0)) ((congrFun (f20 2 (by decide)) 1).trans (congrFun (f6 2 (by decide)) 1)) ((congrFun (f20 2 (by decide)) 2).trans (congrFun (f6 2 (by decide)) 2)) ((congrFun (f20 2 (by decide)) 3).trans (congrFun (f6 2 (by decide)) 3)) ((f20 6 (by decide)).trans (f6 6 (by decide))) hI2
  have I28 : jI9 σ18 := jI9_fr ((congrFun (f20 9 (by decide)) 0).trans (congrFun (f6 9 (by decide)) 0)) ((f20 10 (by decide)).trans (f6 10 (by decide))) ((f20 11 (by decide)).trans (f6 11 (by decide))) hI9
  have I29 : jI12 σ18 := jI12_fr ((congrFun (f20 12 (by decide)) 0).trans (congrFun (f6 12 (by decide)) 0)) ((f20 13 (by decide)).trans (f6 13 (by decide))) hI12
  have I30 : jI16 σ18 := jI16_fr ((congrFun (f20 16 (by decide)) 0).trans (congrFun (f6 16 (by decide)) 0)) ((congrFun (f20 16 (by decide)) 1).trans (congrFun (f6 16 (by decide)) 1)) ((congrFun (f20 16 (by decide)) 2).trans (congrFun (f6 16 (by decide)) 2)) ((f20 17 (by decide)).trans (f6 17 (by decide))) hI16
  have I31 : jI18 σ18 := jI18_fr ((congrFun (f20 18 (by decide)) 0).trans (congrFun (f6 18 (by decide)) 0)) ((f20 19 (by decide)).trans (f6 19 (by decide))) hI18
  have I32 : jI22 σ18 := jI22_fr ((congrFun (f20 22 (by decide)) 0).trans (congrFun (f6 22 (by decide)) 0)) ((f20 23 (by decide)).trans (f6 23 (by decide))) hI22
  have I33 : jI31 σ18 := jI31_fr (congrFun (f20 31 (by decide)) 8) (f20 33 (by decide)) (f20 36 (by decide)) I8
  have I34 : jI38 σ18 := jI38_fr ((congrFun (f20 38 (by decide)) 0).trans (congrFun (f6 38 (by decide)) 0)) ((congrFun (f20 38 (by decide)) 1).trans (congrFun (f6 38 (by decide)) 1)) ((f20 39 (by decide)).trans (f6 39 (by decide))) hI38
  have I35 : jI43 σ18 := jI43_fr ((congrFun (f20 43 (by decide)) 8).trans (congrFun (f6 43 (by decide)) 8)) hI43
  have I36 : jI47 σ18 := jI47_fr ((congrFun (f20 47 (by decide)) 0).trans (congrFun (f6 47 (by decide)) 0)) ((f20 49 (by decide)).trans (f6 49 (by decide))) hI47
  have I37 : jI50 σ18 := jI50_fr ((f20 52 (by decide)).trans (f6 52 (by decide))) hI50
  have I38 : jI101 σ18 := jI101_fr (f21 4 (by decide)) (f21 5 (by decide)) (f20 56 (by decide)) (f20 57 (by decide)) (f20 58 (by decide)) (f20 59 (by decide)) I9
  have I39 : jI102 σ18 := jI102_fr (f21 6 (by decide)) (f20 60 (by decide)) (f20 61 (by decide)) I10
  have I40 : jI103 σ18 := jI103_fr (f21 9 (by decide)) I11
  have I41 : jI105 σ18 := jI105_fr (f21 15 (by decide)) (f20 65 (by decide)) I13
  have I42 : jI106 σ18 := jI106_fr (f21 32 (by decide)) (f20 70 (by decide)) (f20 71 (by decide)) (f20 72 (by decide)) I14
  have I43 : jI107 σ18 := jI107_fr ((f21 12 (by decide)).trans (congrFun (f6 55 (by decide)) 12)) ((f21 47 (by decide)).trans (congrFun (f6 55 (by decide)) 47)) ((f20 80 (by decide)).trans (f6 80 (by decide))) hI107
  have I44 : jI109 σ18 := jI109_fr ((f21 50 (by decide)).trans (congrFun (f6 55 (by decide)) 50)) hI109
  have I45 : jI110 σ18 := jI110_fr ((f20 86 (by decide)).trans (f6 86 (by decide))) ((f20 87 (by decide)).trans (f6 87 (by decide))) hI110
  have p46 : jBook σ18 := jBook.fr ((f21 47 (by decide)).trans (congrFun (f6 55 (by decide)) 47)) ((f21 10 (by decide)).trans (congrFun (f6 55 (by decide)) 10)) ((f20 81 (by decide)).trans (f6 81 (by decide))) hs_jBook
  have z47 : (σ18 2 1).toInt = (σ 2 1).toInt := (congrArg Int32.toInt (show σ18 2 1 = (σ 2 1) from ((congrFun (f20 2 (by decide)) 1).trans (congrFun (f6 2 (by decide)) 1))))
  have z48 : (σ18 55 9).toInt = (σ 55 9).toInt := (congrArg Int32.toInt (show σ18 55 9 = (σ 55 9) from ((f21 9 (by decide)).trans (congrFun (f6 55 (by decide)) 9))))
  exact ih x26 σ18 τ _ _ ls (by have h9 := tx26; omega) ⟨I27, I28, I29, I30, I31, I32, I33, I34, I35, I36, I37, I38, I39, I40, I22, I41, I42, I43, I44, I45, I23, I24, p25, p46, (by omega)⟩ hP hS (lv_sub hl [0, 1, 2, 3] rfl)
set_option maxHeartbeats 4000000 in
set_option maxRecDepth 100000 in
theorem law_case_18 {p : Program} {e : Env} {s : State} {m : MethodId} {below : List Frame} {meth : Method} {c : Code} (l : Launch) {b L : Nat} {xs : Nat → Int32} {D : va_G} {cI cL : ClassId} {ad zz : Nat → Nat} (C0 : lw_At p s m meth c b L xs) (hJ : jD ad) (hA : ∀ q, jA ad q → s.heap.size ≤ q) (hK : jK D cI cL s) (hZ : jZ zz (fun q : Nat => s.heap.size ≤ q) s s.heap) {x0 : Int32} (hx0 : 0 ≤ x0.toInt) (hxL : x0.toInt + 6 ≤ (L : Int)) (hL : L ≤ 384) {σ : Nat → Nat → Int32} {τ : Nat → Nat → Int64} {H : Heap} {locs : List Loc} (hS : va_S (fun q : Nat => s.heap.size ≤ q) s.heap H locs) {ls : Array Slot} (hAll : jAll σ τ) (hP : jH D cI cL ad σ τ H) (hl : lv_has ls 4 [(3, .int x0), (2, .ref (ad 55)), (1, .ref (ad 0)), (0, .ref b)]) (ih : ∀ (x1 : Int32) (σ : Nat → Nat → Int32) (τ : Nat → Nat → Int64) (H : Heap) (locs : List Loc) (ls : Array Slot), x1.toInt = x0.toInt + 6 → jAll σ τ → jH D cI cL ad σ τ H → va_S (fun q : Nat => s.heap.size ≤ q) s.heap H locs → lv_has ls 4 [(3, .int x1), (2, .ref (ad 55)), (1, .ref (ad 0)), (0, .ref b)] → W p l e room_1 s m #[Value.ref b] below meth c H locs 90 348600 (lw_Z below #[Value.ref b] s) (F0 m 18 ls [])) : W p l e room_1 s m #[Value.ref b] below meth c H locs 90 348600 (lw_Z below #[Value.ref b] s) (F0 m 740 ls []) := by
  obtain ⟨hx, hb, hr, hml, hown, hts0, hX, hbl, hlocks, hgv⟩ := C0
  have hts : ∀ w ∈ wsL_law, w.before #[Value.ref b] s = true := fun w h => hts0 w (wsL_law_in w h)
  have hbA : ¬ (fun q : Nat => s.heap.size ≤ q) b := Nat.not_le.mpr hbl
  have hown : s.vm.findClass RL = some m.cls := hown
  obtain ⟨hI2, hI9, hI12, hI16, hI18, hI22, hI31, hI38, hI43, hI47, hI50, hI101, hI102, hI103, hI104, hI105, hI106, hI107, hI109, hI110, hI111, hI119, hs_jKept, hs_jBook, ht0⟩ := hAll
  have hL9 : (L : Int) ≤ 384 := by omega
  refine lv_aload_n hx hb dL_law_740 rfl (lv_at hl 2 rfl) ?_
  refine lv_aload_n hx hb dL_law_741 rfl (lv_at hl 3 rfl) ?_
  refine lv_iload_n hx hb dL_law_742 rfl (lv_at hl 0 rfl) ?_
  refine lv_iconst (v := 1) hx hb dL_law_743 (by decide) ?_
  have g1 := jrg (rfl : x0.toInt = x0.toInt)
  refine lv_iadd hx hb dL_law_744 ?_
  refine lv_topi (fun x2 ex2 => ?_)
  have tx2 : x2.toInt = x0.toInt + 1 := (jadd ex2 rfl jz_1 (by omega) (by omega)).trans (by omega)
  refine va_sld hx hb hX hbl hbA hS (jin tx2 (by omega) (by omega)) dL_law_745 ?_
  have g3 := jrg (rfl : (xs x2.toNatClampNeg).toInt = (xs x2.toNatClampNeg).toInt)
  refine lv_aload_n hx hb dL_law_746 rfl (lv_at hl 3 rfl) ?_
  refine lv_iload_n hx hb dL_law_747 rfl (lv_at hl 0 rfl) ?_
  refine lv_iconst (v := 2) hx hb dL_law_748 (by decide) ?_
  refine lv_iadd hx hb dL_law_749 ?_
  refine lv_topi (fun x4 ex4 => ?_)
  have tx4 : x4.toInt = x0.toInt + 2 := (jadd ex4 rfl jz_2 (by omega) (by omega)).trans (by omega)
  refine va_sld hx hb hX hbl hbA hS (jin tx4 (by omega) (by omega)) dL_law_750 ?_
  have g5 := jrg (rfl : (xs x4.toNatClampNeg).toInt = (xs x4.toNatClampNeg).toInt)
  refine jcallV (As := [.int (xs x2.toNatClampNeg), .int (xs x4.toNatClampNeg)]) (rest := []) ⟨hx, hb, hml, hown, hts⟩ hK hP hA hS hZ (c_X11_learn l D cI cL ad zz hJ σ τ (xs x2.toNatClampNeg) ((xs x2.toNatClampNeg).toInt) rfl (xs x4.toNatClampNeg) ((xs x4.toNatClampNeg).toInt) rfl hI2) cw_RL_89 (jc_0 cI cL ad σ τ) rfl ⟨Nat.le_of_ble_eq_true rfl, Nat.le_of_ble_eq_true rfl⟩ rfl rfl rfl hl.1 rfl (Nat.le_of_ble_eq_true rfl) dL_law_751 ⟨Nat.le_of_ble_eq_true rfl, Nat.le_of_ble_eq_true rfl⟩ (fun r7 σ6 τ6 H locs h6 hP hS => ?_)
  obtain ⟨rfl, f8, f9, I10, h6⟩ := h6
  refine lv_pop hx hb dL_law_754 rfl ?_
  refine lv_aload_n hx hb dL_law_755 rfl (lv_at hl 1 rfl) ?_
  refine lv_aload_n hx hb dL_law_756 rfl (lv_at hl 3 rfl) ?_
  refine lv_iload_n hx hb dL_law_757 rfl (lv_at hl 0 rfl) ?_
  refine lv_iconst (v := 1) hx hb dL_law_758 (by decide) ?_
  refine lv_iadd hx hb dL_law_759 ?_
  refine jtopr ex2.symm ?_
  refine va_sld hx hb hX hbl hbA hS (jin tx2 (by omega) (by omega)) dL_law_760 ?_
  refine lv_aload_n hx hb dL_law_761 rfl (lv_at hl 3 rfl) ?_
  refine lv_iload_n hx hb dL_law_762 rfl (lv_at hl 0 rfl) ?_
  refine lv_iconst (v := 2) hx hb dL_law_763 (by decide) ?_
  refine lv_iadd hx hb dL_law_764 ?_
  refine jtopr ex4.symm ?_
  refine va_sld hx hb hX hbl hbA hS (jin tx4 (by omega) (by omega)) dL_law_765 ?_
  have I11 : jI101 σ6 := jI101_fr (congrFun (f8 55 (by decide)) 4) (congrFun (f8 55 (by decide)) 5) (f8 56 (by decide)) (f8 57 (by decide)) (f8 58 (by decide)) (f8 59 (by decide)) hI101
  have I12 : jI102 σ6 := jI102_fr (congrFun (f8 55 (by decide)) 6) (f8 60 (by decide)) (f8 61 (by decide)) hI102
  refine jcallV (As := [.int (xs x2.toNatClampNeg), .int (xs x4.toNatClampNeg)]) (rest := []) ⟨hx, hb, hml, hown, hts⟩ hK hP hA hS hZ (c_X12_learn l D cI cL ad zz hJ σ6 τ (xs x2.toNatClampNeg) ((xs x2.toNatClampNeg).toInt) rfl (xs x4.toNatClampNeg) ((xs x4.toNatClampNeg).toInt) rfl I11 I12) cw_RL_92 (jc_55 cI cL ad σ6 τ) rfl ⟨Nat.le_of_ble_eq_true rfl, Nat.le_of_ble_eq_true rfl⟩ rfl rfl rfl hl.1 rfl (Nat.le_of_ble_eq_true rfl) dL_law_766 ⟨Nat.le_of_ble_eq_true rfl, Nat.le_of_ble_eq_true rfl⟩ (fun r14 σ13 τ13 H locs h13 hP hS => ?_)
  obtain ⟨rfl, f15, f16, I17, h13⟩ := h13
  refine lv_pop hx hb dL_law_769 rfl ?_
  refine lv_goto (tgt := 1357) hx hb dL_law_770 (by decide) ?_
  obtain ⟨x18, ex18⟩ : ∃ y : Int32, y = x0 + 6 := ⟨_, rfl⟩
  have tx18 : x18.toInt = x0.toInt + 6 := (jadd ex18 rfl jz_6 (by omega) (by omega)).trans (by omega)
  refine lv_iinc (v := x18) (lv' := [(3, .int x18), (2, .ref (ad 55)), (1, .ref (ad 0)), (0, .ref b)]) hx hb dL_law_1357 hl (k := 0) rfl (by rw [ex18]; rfl) (by decide) rfl (fun ls hl => ?_)
  refine lv_goto (tgt := 18) hx hb dL_law_1360 (by decide) ?_
  have I19 : jI2 σ13 := jI2_fr (congrFun (f15 2 (by decide)) 0) (congrFun (f15 2 (by decide)) 1) (congrFun (f15 2 (by decide)) 2) (congrFun (f15 2 (by decide)) 3) (f15 6 (by decide)) I10
  have I20 : jI9 σ13 := jI9_fr ((congrFun (f15 9 (by decide)) 0).trans (congrFun (f8 9 (by decide)) 0)) ((f15 10 (by decide)).trans (f8 10 (by decide))) ((f15 11 (by decide)).trans (f8 11 (by decide))) hI9
  have I21 : jI12 σ13 := jI12_fr ((congrFun (f15 12 (by decide)) 0).trans (congrFun (f8 12 (by decide)) 0)) ((f15 13 (by decide)).trans (f8 13 (by decide))) hI12
  have I22 : jI16 σ13 := jI16_fr ((congrFun (f15 16 (by decide)) 0).trans (congrFun (f8 16 (by decide)) 0)) ((congrFun (f15 16 (by decide)) 1).trans (congrFun (f8 16 (by decide)) 1)) ((congrFun (f15 16 (by decide)) 2).trans (congrFun (f8 16 (by decide)) 2)) ((f15 17 (by decide)).trans (f8 17 (by decide))) hI16
  have I23 : jI18 σ13 := jI18_fr ((congrFun (f15 18 (by decide)) 0).trans (congrFun (f8 18 (by decide)) 0)) ((f15 19 (by decide)).trans (f8 19 (by decide))) hI18
  have I24 : jI22 σ13 := jI22_fr ((congrFun (f15 22 (by decide)) 0).trans (congrFun (f8 22 (by decide)) 0)) ((f15 23 (by decide)).trans (f8 23 (by decide))) hI22
  have I25 : jI31 σ13 := jI31_fr ((congrFun (f15 31 (by decide)) 8).trans (congrFun (f8 31 (by decide)) 8)) ((f15 33 (by decide)).trans (f8 33 (by decide))) ((f15 36 (by decide)).trans (f8 36 (by decide))) hI31
  have I26 : jI38 σ13 := jI38_fr ((congrFun (f15 38 (by decide)) 0).trans (congrFun (f8 38 (by decide)) 0)) ((congrFun (f15 38 (by decide)) 1).trans (congrFun (f8 38 (by decide)) 1)) ((f15 39 (by decide)).trans (f8 39 (by decide))) hI38
  have I27 : jI43 σ13 := jI43_fr ((congrFun (f15 43 (by decide)) 8).trans (congrFun (f8 43 (by decide)) 8)) hI43
  have I28 : jI47 σ13 := jI47_fr ((congrFun (f15 47 (by decide)) 0).trans (congrFun (f8 47 (by decide)) 0)) ((f15 49 (by decide)).trans (f8 49 (by decide))) hI47
  have I29 : jI50 σ13 := jI50_fr ((f15 52 (by decide)).trans (f8 52 (by decide))) hI50
  have I30 : jI102 σ13 := jI102_fr (f16 6 (by decide)) (f15 60 (by decide)) (f15 61 (by decide)) I12
  have I31 : jI103 σ13 := jI103_fr ((f16 9 (by decide)).trans (congrFun (f8 55 (by decide)) 9)) hI103
  have I32 : jI104 σ13 := jI104_fr ((f16 10 (by decide)).trans (congrFun (f8 55 (by decide)) 10)) ((f16 12 (by decide)).trans (congrFun (f8 55 (by decide)) 12)) ((f16 13 (by decide)).trans (congrFun (f8 55 (by decide)) 13)) ((f15 62 (by decide)).trans (f8 62 (by decide))) ((f15 67 (by decide)).trans (f8 67 (by decide))) hI104
  have I33 : jI105 σ13 := jI105_fr ((f16 15 (by decide)).trans (congrFun (f8 55 (by decide)) 15)) ((f15 65 (by decide)).trans (f8 65 (by decide))) hI105
  have I34 : jI106 σ13 := jI106_fr ((f16 32 (by decide)).trans (congrFun (f8 55 (by decide)) 32)) ((f15 70 (by decide)).trans (f8 70 (by decide))) ((f15 71 (by decide)).trans (f8 71 (by decide))) ((f15 72 (by decide)).trans (f8 72 (by decide))) hI106
  have I35 : jI107 σ13 := jI107_fr ((f16 12 (by decide)).trans (congrFun (f8 55 (by decide)) 12)) ((f16 47 (by decide)).trans (congrFun (f8 55 (by decide)) 47)) ((f15 80 (by decide)).trans (f8 80 (by decide))) hI107
  have I36 : jI109 σ13 := jI109_fr ((f16 50 (by decide)).trans (congrFun (f8 55 (by decide)) 50)) hI109
  have I37 : jI110 σ13 := jI110_fr ((f15 86 (by decide)).trans (f8 86 (by decide))) ((f15 87 (by decide)).trans (f8 87 (by decide))) hI110
  have I38 : jI111 σ13 := jI111_fr ((f15 79 (by decide)).trans (f8 79 (by decide))) hI111
  have I39 : jI119 σ13 := jI119_fr ((f15 68 (by decide)).trans (f8 68 (by decide))) hI119
  have p40 : jKept σ13 := jKept.fr ((f15 75 (by decide)).trans (f8 75 (by decide))) ((f15 76 (by decide)).trans (f8 76 (by decide))) ((f15 77 (by decide)).trans (f8 77 (by decide))) hs_jKept
  have p41 : jBook σ13 := jBook.fr ((f16 47 (by decide)).trans (congrFun (f8 55 (by decide)) 47)) ((f16 10 (by decide)).trans (congrFun (f8 55 (by decide)) 10)) ((f15 81 (by decide)).trans (f8 81 (by decide))) hs_jBook
  have z42 : (σ13 2 1).toInt = (σ 2 1).toInt := (congrArg Int32.toInt (show σ13 2 1 = (σ 2 1) from ((congrFun (f15 2 (by decide)) 1).trans (f9 1 (by decide)))))
  have z43 : (σ13 55 9).toInt = (σ 55 9).toInt := (congrArg Int32.toInt (show σ13 55 9 = (σ 55 9) from ((f16 9 (by decide)).trans (congrFun (f8 55 (by decide)) 9))))
  exact ih x18 σ13 τ _ _ ls (by have h9 := tx18; omega) ⟨I19, I20, I21, I22, I23, I24, I25, I26, I27, I28, I29, I17, I30, I31, I32, I33, I34, I35, I36, I37, I38, I39, p40, p41, (by omega)⟩ hP hS (lv_sub hl [0, 1, 2, 3] rfl)
