set_option maxHeartbeats 4000000 in
set_option maxRecDepth 100000 in
theorem law_case_0 {p : Program} {e : Env} {s : State} {m : MethodId} {below : List Frame} {meth : Method} {c : Code} (l : Launch) {b L : Nat} {xs : Nat → Int32} {D : va_G} {cI cL : ClassId} {ad zz : Nat → Nat} (C0 : lw_At p s m meth c b L xs) (hJ : jD ad) (hA : ∀ q, jA ad q → s.heap.size ≤ q) (hK : jK D cI cL s) (hZ : jZ zz (fun q : Nat => s.heap.size ≤ q) s s.heap) {x0 : Int32} (hx0 : 0 ≤ x0.toInt) (hxL : x0.toInt + 6 ≤ (L : Int)) (hL : L ≤ 384) {σ : Nat → Nat → Int32} {τ : Nat → Nat → Int64} {H : Heap} {locs : List Loc} (hS : va_S (fun q : Nat => s.heap.size ≤ q) s.heap H locs) {ls : Array Slot} (hAll : jAll σ τ) (hP : jH D cI cL ad σ τ H) (hl : lv_has ls 4 [(3, .int x0), (2, .ref (ad 55)), (1, .ref (ad 0)), (0, .ref b)]) (ih : ∀ (x1 : Int32) (σ : Nat → Nat → Int32) (τ : Nat → Nat → Int64) (H : Heap) (locs : List Loc) (ls : Array Slot), x1.toInt = x0.toInt + 6 → jAll σ τ → jH D cI cL ad σ τ H → va_S (fun q : Nat => s.heap.size ≤ q) s.heap H locs → lv_has ls 4 [(3, .int x1), (2, .ref (ad 55)), (1, .ref (ad 0)), (0, .ref b)] → W p l e room_1 s m #[Value.ref b] below meth c H locs 90 348600 (lw_Z below #[Value.ref b] s) (F0 m 18 ls [])) : W p l e room_1 s m #[Value.ref b] below meth c H locs 90 348600 (lw_Z below #[Value.ref b] s) (F0 m 196 ls []) := by
  obtain ⟨hx, hb, hr, hml, hown, hts0, hX, hbl, hlocks, hgv⟩ := C0
  have hts : ∀ w ∈ wsL_law, w.before #[Value.ref b] s = true := fun w h => hts0 w (wsL_law_in w h)
  have hbA : ¬ (fun q : Nat => s.heap.size ≤ q) b := Nat.not_le.mpr hbl
  have hown : s.vm.findClass RL = some m.cls := hown
  obtain ⟨hI2, hI9, hI12, hI16, hI18, hI22, hI31, hI38, hI43, hI47, hI50, hI101, hI102, hI103, hI104, hI105, hI106, hI107, hI109, hI110, hI111, hI119, hs_jKept, hs_jBook, ht0, hr0, hr1⟩ := hAll
  have hL9 : (L : Int) ≤ 384 := by omega
  obtain ⟨i1, i2, w3⟩ : (0 ≤ (σ 38 0).toInt ∧ (σ 38 0).toInt ≤ 20) ∧ (0 ≤ (σ 38 1).toInt ∧ (σ 38 1).toInt ≤ 1000) ∧ (∀ k : Nat, k < 20 → 0 ≤ (σ 39 k).toInt ∧ (σ 39 k).toInt ≤ 6) := id hI38
  obtain ⟨i4, w5, w6, w7⟩ : (0 ≤ (σ 55 32).toInt ∧ (σ 55 32).toInt ≤ 20) ∧ (∀ k : Nat, k < 20 → 0 ≤ (σ 70 k).toInt ∧ (σ 70 k).toInt ≤ 6) ∧ (∀ k : Nat, k < 20 → 0 ≤ (σ 71 k).toInt ∧ (σ 71 k).toInt ≤ 8) ∧ (∀ k : Nat, k < 160 → 0 ≤ (σ 72 k).toInt ∧ (σ 72 k).toInt ≤ 3) := id hI106
  refine lv_aload_n hx hb dL_law_196 rfl (lv_at hl 2 rfl) ?_
  refine lv_aload_n hx hb dL_law_197 rfl (lv_at hl 3 rfl) ?_
  refine lv_iload_n hx hb dL_law_198 rfl (lv_at hl 0 rfl) ?_
  refine lv_iconst (v := 1) hx hb dL_law_199 (by decide) ?_
  have g8 := jrg (rfl : x0.toInt = x0.toInt)
  refine lv_iadd hx hb dL_law_200 ?_
  refine lv_topi (fun x9 ex9 => ?_)
  have tx9 : x9.toInt = x0.toInt + 1 := (jadd ex9 rfl jz_1 (by omega) (by omega)).trans (by omega)
  refine va_sld hx hb hX hbl hbA hS (jin tx9 (by omega) (by omega)) dL_law_201 ?_
  have g10 := jrg (rfl : (xs x9.toNatClampNeg).toInt = (xs x9.toNatClampNeg).toInt)
  refine lv_aload_n hx hb dL_law_202 rfl (lv_at hl 3 rfl) ?_
  refine lv_iload_n hx hb dL_law_203 rfl (lv_at hl 0 rfl) ?_
  refine lv_iconst (v := 2) hx hb dL_law_204 (by decide) ?_
  refine lv_iadd hx hb dL_law_205 ?_
  refine lv_topi (fun x11 ex11 => ?_)
  have tx11 : x11.toInt = x0.toInt + 2 := (jadd ex11 rfl jz_2 (by omega) (by omega)).trans (by omega)
  refine va_sld hx hb hX hbl hbA hS (jin tx11 (by omega) (by omega)) dL_law_206 ?_
  have g12 := jrg (rfl : (xs x11.toNatClampNeg).toInt = (xs x11.toNatClampNeg).toInt)
  refine lv_aload_n hx hb dL_law_207 rfl (lv_at hl 3 rfl) ?_
  refine lv_iload_n hx hb dL_law_208 rfl (lv_at hl 0 rfl) ?_
  refine lv_iconst (v := 3) hx hb dL_law_209 (by decide) ?_
  refine lv_iadd hx hb dL_law_210 ?_
  refine lv_topi (fun x13 ex13 => ?_)
  have tx13 : x13.toInt = x0.toInt + 3 := (jadd ex13 rfl jz_3 (by omega) (by omega)).trans (by omega)
  refine va_sld hx hb hX hbl hbA hS (jin tx13 (by omega) (by omega)) dL_law_211 ?_
  have g14 := jrg (rfl : (xs x13.toNatClampNeg).toInt = (xs x13.toNatClampNeg).toInt)
  refine jcallV (As := [.int (xs x9.toNatClampNeg), .int (xs x11.toNatClampNeg), .int (xs x13.toNatClampNeg)]) (rest := []) ⟨hx, hb, hml, hown, hts⟩ hK hP hA hS hZ (c_X11_bowler l D cI cL ad zz hJ σ τ (xs x9.toNatClampNeg) ((xs x9.toNatClampNeg).toInt) rfl (xs x11.toNatClampNeg) ((xs x11.toNatClampNeg).toInt) rfl (xs x13.toNatClampNeg) ((xs x13.toNatClampNeg).toInt) rfl hI2) cw_RL_13 (jc_0 cI cL ad σ τ) rfl ⟨Nat.le_of_ble_eq_true rfl, Nat.le_of_ble_eq_true rfl⟩ rfl rfl rfl hl.1 rfl (Nat.le_of_ble_eq_true rfl) dL_law_212 ⟨Nat.le_of_ble_eq_true rfl, Nat.le_of_ble_eq_true rfl⟩ (fun r16 σ15 τ15 H locs h15 hP hS => ?_)
  obtain ⟨rfl, f17, f18, I19, h15⟩ := h15
  rcases h15 with h21 | h22 | h23
  · obtain ⟨q27, k24, k25, k26⟩ := h21
    have q27 := q27.symm
    subst q27
    refine lv_pop hx hb dL_law_215 rfl ?_
    refine lv_aload_n hx hb dL_law_216 rfl (lv_at hl 1 rfl) ?_
    refine lv_aload_n hx hb dL_law_217 rfl (lv_at hl 3 rfl) ?_
    refine lv_iload_n hx hb dL_law_218 rfl (lv_at hl 0 rfl) ?_
    refine lv_iconst (v := 1) hx hb dL_law_219 (by decide) ?_
    refine lv_iadd hx hb dL_law_220 ?_
    refine jtopr ex9.symm ?_
    refine va_sld hx hb hX hbl hbA hS (jin tx9 (by omega) (by omega)) dL_law_221 ?_
    refine lv_aload_n hx hb dL_law_222 rfl (lv_at hl 3 rfl) ?_
    refine lv_iload_n hx hb dL_law_223 rfl (lv_at hl 0 rfl) ?_
    refine lv_iconst (v := 2) hx hb dL_law_224 (by decide) ?_
    refine lv_iadd hx hb dL_law_225 ?_
    refine jtopr ex11.symm ?_
    refine va_sld hx hb hX hbl hbA hS (jin tx11 (by omega) (by omega)) dL_law_226 ?_
    refine lv_aload_n hx hb dL_law_227 rfl (lv_at hl 3 rfl) ?_
    refine lv_iload_n hx hb dL_law_228 rfl (lv_at hl 0 rfl) ?_
    refine lv_iconst (v := 3) hx hb dL_law_229 (by decide) ?_
    refine lv_iadd hx hb dL_law_230 ?_
    refine jtopr ex13.symm ?_
    refine va_sld hx hb hX hbl hbA hS (jin tx13 (by omega) (by omega)) dL_law_231 ?_
    have I28 : jI101 σ15 := jI101_fr (congrFun (f17 55 (by decide)) 4) (congrFun (f17 55 (by decide)) 5) (f17 56 (by decide)) (f17 57 (by decide)) (f17 58 (by decide)) (f17 59 (by decide)) hI101
    have I29 : jI102 σ15 := jI102_fr (congrFun (f17 55 (by decide)) 6) (f17 60 (by decide)) (f17 61 (by decide)) hI102
    have z30 : (σ15 55 6).toInt = (σ 55 6).toInt := (congrArg Int32.toInt (show σ15 55 6 = (σ 55 6) from (congrFun (f17 55 (by decide)) 6)))
    refine jcallV (As := [.int (xs x9.toNatClampNeg), .int (xs x11.toNatClampNeg), .int (xs x13.toNatClampNeg)]) (rest := []) ⟨hx, hb, hml, hown, hts⟩ hK hP hA hS hZ (c_X12_bowler l D cI cL ad zz hJ σ15 τ (xs x9.toNatClampNeg) ((xs x9.toNatClampNeg).toInt) rfl (xs x11.toNatClampNeg) ((xs x11.toNatClampNeg).toInt) rfl (xs x13.toNatClampNeg) ((xs x13.toNatClampNeg).toInt) rfl I28 I29) cw_RL_17 (jc_55 cI cL ad σ15 τ) rfl ⟨Nat.le_of_ble_eq_true rfl, Nat.le_of_ble_eq_true rfl⟩ rfl rfl rfl hl.1 rfl (Nat.le_of_ble_eq_true rfl) dL_law_232 ⟨Nat.le_of_ble_eq_true rfl, Nat.le_of_ble_eq_true rfl⟩ (fun r32 σ31 τ31 H locs h31 hP hS => ?_)
    obtain ⟨rfl, f33, f34, I35, I36, h31⟩ := h31
    rcases h31 with h38 | h39 | h40
    · obtain ⟨q44, k41, k42, k43⟩ := h38
      have q44 := q44.symm
      subst q44
      refine lv_pop hx hb dL_law_235 rfl ?_
      refine lv_goto (tgt := 1357) hx hb dL_law_236 (by decide) ?_
      obtain ⟨x45, ex45⟩ : ∃ y : Int32, y = x0 + 6 := ⟨_, rfl⟩
      have tx45 : x45.toInt = x0.toInt + 6 := (jadd ex45 rfl jz_6 (by omega) (by omega)).trans (by omega)
      refine lv_iinc (v := x45) (lv' := [(3, .int x45), (2, .ref (ad 55)), (1, .ref (ad 0)), (0, .ref b)]) hx hb dL_law_1357 hl (k := 0) rfl (by rw [ex45]; rfl) (by decide) rfl (fun ls hl => ?_)
      refine lv_goto (tgt := 18) hx hb dL_law_1360 (by decide) ?_
      have I46 : jI2 σ31 := jI2_fr (congrFun (f33 2 (by decide)) 0) (congrFun (f33 2 (by decide)) 1) (congrFun (f33 2 (by decide)) 2) (congrFun (f33 2 (by decide)) 3) (f33 6 (by decide)) I19
      have I47 : jI9 σ31 := jI9_fr ((congrFun (f33 9 (by decide)) 0).trans (congrFun (f17 9 (by decide)) 0)) ((f33 10 (by decide)).trans (f17 10 (by decide))) ((f33 11 (by decide)).trans (f17 11 (by decide))) hI9
      have I48 : jI12 σ31 := jI12_fr ((congrFun (f33 12 (by decide)) 0).trans (congrFun (f17 12 (by decide)) 0)) ((f33 13 (by decide)).trans (f17 13 (by decide))) hI12
      have I49 : jI16 σ31 := jI16_fr ((congrFun (f33 16 (by decide)) 0).trans (congrFun (f17 16 (by decide)) 0)) ((congrFun (f33 16 (by decide)) 1).trans (congrFun (f17 16 (by decide)) 1)) ((congrFun (f33 16 (by decide)) 2).trans (congrFun (f17 16 (by decide)) 2)) ((f33 17 (by decide)).trans (f17 17 (by decide))) hI16
      have I50 : jI18 σ31 := jI18_fr ((congrFun (f33 18 (by decide)) 0).trans (congrFun (f17 18 (by decide)) 0)) ((f33 19 (by decide)).trans (f17 19 (by decide))) hI18
      have I51 : jI22 σ31 := jI22_fr ((congrFun (f33 22 (by decide)) 0).trans (congrFun (f17 22 (by decide)) 0)) ((f33 23 (by decide)).trans (f17 23 (by decide))) hI22
      have I52 : jI31 σ31 := jI31_fr ((congrFun (f33 31 (by decide)) 8).trans (congrFun (f17 31 (by decide)) 8)) ((f33 33 (by decide)).trans (f17 33 (by decide))) ((f33 36 (by decide)).trans (f17 36 (by decide))) hI31
      have I53 : jI38 σ31 := jI38_fr ((congrFun (f33 38 (by decide)) 0).trans (congrFun (f17 38 (by decide)) 0)) ((congrFun (f33 38 (by decide)) 1).trans (congrFun (f17 38 (by decide)) 1)) ((f33 39 (by decide)).trans (f17 39 (by decide))) hI38
      have I54 : jI43 σ31 := jI43_fr ((congrFun (f33 43 (by decide)) 8).trans (congrFun (f17 43 (by decide)) 8)) hI43
      have I55 : jI47 σ31 := jI47_fr ((congrFun (f33 47 (by decide)) 0).trans (congrFun (f17 47 (by decide)) 0)) ((f33 48 (by decide)).trans (f17 48 (by decide))) ((f33 49 (by decide)).trans (f17 49 (by decide))) hI47
      have I56 : jI50 σ31 := jI50_fr ((f33 52 (by decide)).trans (f17 52 (by decide))) hI50
      have I57 : jI103 σ31 := jI103_fr ((f34 9 (by decide)).trans (congrFun (f17 55 (by decide)) 9)) hI103
      have I58 : jI104 σ31 := jI104_fr ((f34 10 (by decide)).trans (congrFun (f17 55 (by decide)) 10)) ((f34 12 (by decide)).trans (congrFun (f17 55 (by decide)) 12)) ((f34 13 (by decide)).trans (congrFun (f17 55 (by decide)) 13)) ((f33 62 (by decide)).trans (f17 62 (by decide))) ((f33 67 (by decide)).trans (f17 67 (by decide))) hI104
      have I59 : jI105 σ31 := jI105_fr ((f34 15 (by decide)).trans (congrFun (f17 55 (by decide)) 15)) ((f33 65 (by decide)).trans (f17 65 (by decide))) hI105
      have I60 : jI106 σ31 := jI106_fr ((f34 32 (by decide)).trans (congrFun (f17 55 (by decide)) 32)) ((f33 70 (by decide)).trans (f17 70 (by decide))) ((f33 71 (by decide)).trans (f17 71 (by decide))) ((f33 72 (by decide)).trans (f17 72 (by decide))) hI106
      have I61 : jI107 σ31 := jI107_fr ((f34 12 (by decide)).trans (congrFun (f17 55 (by decide)) 12)) ((f34 47 (by decide)).trans (congrFun (f17 55 (by decide)) 47)) ((f33 80 (by decide)).trans (f17 80 (by decide))) hI107
      have I62 : jI109 σ31 := jI109_fr ((f34 50 (by decide)).trans (congrFun (f17 55 (by decide)) 50)) hI109
      have I63 : jI110 σ31 := jI110_fr ((f33 86 (by decide)).trans (f17 86 (by decide))) ((f33 87 (by decide)).trans (f17 87 (by decide))) hI110
      have I64 : jI111 σ31 := jI111_fr ((f33 79 (by decide)).trans (f17 79 (by decide))) hI111
      have I65 : jI119 σ31 := jI119_fr ((f33 68 (by decide)).trans (f17 68 (by decide))) hI119
      have p66 : jKept σ31 := jKept.fr ((f33 75 (by decide)).trans (f17 75 (by decide))) ((f33 76 (by decide)).trans (f17 76 (by decide))) ((f33 77 (by decide)).trans (f17 77 (by decide))) hs_jKept
      have p67 : jBook σ31 := jBook.fr ((f34 47 (by decide)).trans (congrFun (f17 55 (by decide)) 47)) ((f34 10 (by decide)).trans (congrFun (f17 55 (by decide)) 10)) ((f33 81 (by decide)).trans (f17 81 (by decide))) hs_jBook
      have z68 : (σ31 38 0).toInt = (σ 38 0).toInt := (congrArg Int32.toInt (show σ31 38 0 = (σ 38 0) from ((congrFun (f33 38 (by decide)) 0).trans (congrFun (f17 38 (by decide)) 0))))
      have z69 : (σ31 55 32).toInt = (σ 55 32).toInt := (congrArg Int32.toInt (show σ31 55 32 = (σ 55 32) from ((f34 32 (by decide)).trans (congrFun (f17 55 (by decide)) 32))))
      exact ih x45 σ31 τ _ _ ls (by have h9 := tx45; omega) ⟨I46, I47, I48, I49, I50, I51, I52, I53, I54, I55, I56, I35, I36, I57, I58, I59, I60, I61, I62, I63, I64, I65, p66, p67, (by omega), (show jShP (σ31 51) (σ31 52) (σ31 53) (σ31 86) (σ31 87) (σ31 55 32).toInt by rw [show σ31 51 = σ 51 from ((f33 51 (by decide)).trans (f17 51 (by decide))), show σ31 52 = σ 52 from ((f33 52 (by decide)).trans (f17 52 (by decide))), show σ31 53 = σ 53 from ((f33 53 (by decide)).trans (f17 53 (by decide))), show σ31 86 = σ 86 from ((f33 86 (by decide)).trans (f17 86 (by decide))), show σ31 87 = σ 87 from ((f33 87 (by decide)).trans (f17 87 (by decide)))]; exact (hr0.up (by omega) (by omega))), (show jKd (σ31 39) (σ31 70) (σ31 55 32).toInt by rw [show σ31 39 = σ 39 from ((f33 39 (by decide)).trans (f17 39 (by decide))), show σ31 70 = σ 70 from ((f33 70 (by decide)).trans (f17 70 (by decide))), show (σ31 55 32).toInt = (σ 55 32).toInt from by omega]; exact hr1)⟩ hP hS (lv_sub hl [0, 1, 2, 3] rfl)
    · obtain ⟨q76, k70, k71, k72, k73, k74, k75⟩ := h39
      exact absurd (by omega : False) id
    · obtain ⟨q84, k77, k78, k79, k80, k81, k82, k83⟩ := h40
      exact absurd (by omega : False) id
  · obtain ⟨q91, k85, k86, k87, k88, k89, k90⟩ := h22
    have q91 := q91.symm
    subst q91
    refine lv_pop hx hb dL_law_215 rfl ?_
    refine lv_aload_n hx hb dL_law_216 rfl (lv_at hl 1 rfl) ?_
    refine lv_aload_n hx hb dL_law_217 rfl (lv_at hl 3 rfl) ?_
    refine lv_iload_n hx hb dL_law_218 rfl (lv_at hl 0 rfl) ?_
    refine lv_iconst (v := 1) hx hb dL_law_219 (by decide) ?_
    refine lv_iadd hx hb dL_law_220 ?_
    refine jtopr ex9.symm ?_
    refine va_sld hx hb hX hbl hbA hS (jin tx9 (by omega) (by omega)) dL_law_221 ?_
    refine lv_aload_n hx hb dL_law_222 rfl (lv_at hl 3 rfl) ?_
    refine lv_iload_n hx hb dL_law_223 rfl (lv_at hl 0 rfl) ?_
    refine lv_iconst (v := 2) hx hb dL_law_224 (by decide) ?_
    refine lv_iadd hx hb dL_law_225 ?_
    refine jtopr ex11.symm ?_
    refine va_sld hx hb hX hbl hbA hS (jin tx11 (by omega) (by omega)) dL_law_226 ?_
    refine lv_aload_n hx hb dL_law_227 rfl (lv_at hl 3 rfl) ?_
    refine lv_iload_n hx hb dL_law_228 rfl (lv_at hl 0 rfl) ?_
    refine lv_iconst (v := 3) hx hb dL_law_229 (by decide) ?_
    refine lv_iadd hx hb dL_law_230 ?_
    refine jtopr ex13.symm ?_
    refine va_sld hx hb hX hbl hbA hS (jin tx13 (by omega) (by omega)) dL_law_231 ?_
    have I92 : jI101 σ15 := jI101_fr (congrFun (f17 55 (by decide)) 4) (congrFun (f17 55 (by decide)) 5) (f17 56 (by decide)) (f17 57 (by decide)) (f17 58 (by decide)) (f17 59 (by decide)) hI101
    have I93 : jI102 σ15 := jI102_fr (congrFun (f17 55 (by decide)) 6) (f17 60 (by decide)) (f17 61 (by decide)) hI102
    have z94 : (σ15 55 6).toInt = (σ 55 6).toInt := (congrArg Int32.toInt (show σ15 55 6 = (σ 55 6) from (congrFun (f17 55 (by decide)) 6)))
    refine jcallV (As := [.int (xs x9.toNatClampNeg), .int (xs x11.toNatClampNeg), .int (xs x13.toNatClampNeg)]) (rest := []) ⟨hx, hb, hml, hown, hts⟩ hK hP hA hS hZ (c_X12_bowler l D cI cL ad zz hJ σ15 τ (xs x9.toNatClampNeg) ((xs x9.toNatClampNeg).toInt) rfl (xs x11.toNatClampNeg) ((xs x11.toNatClampNeg).toInt) rfl (xs x13.toNatClampNeg) ((xs x13.toNatClampNeg).toInt) rfl I92 I93) cw_RL_17 (jc_55 cI cL ad σ15 τ) rfl ⟨Nat.le_of_ble_eq_true rfl, Nat.le_of_ble_eq_true rfl⟩ rfl rfl rfl hl.1 rfl (Nat.le_of_ble_eq_true rfl) dL_law_232 ⟨Nat.le_of_ble_eq_true rfl, Nat.le_of_ble_eq_true rfl⟩ (fun r96 σ95 τ95 H locs h95 hP hS => ?_)
    obtain ⟨rfl, f97, f98, I99, I100, h95⟩ := h95
    rcases h95 with h102 | h103 | h104
    · obtain ⟨q108, k105, k106, k107⟩ := h102
      exact absurd (by omega : False) id
    · obtain ⟨q115, k109, k110, k111, k112, k113, k114⟩ := h103
      have q115 := q115.symm
      subst q115
      refine lv_pop hx hb dL_law_235 rfl ?_
      refine lv_goto (tgt := 1357) hx hb dL_law_236 (by decide) ?_
      obtain ⟨x116, ex116⟩ : ∃ y : Int32, y = x0 + 6 := ⟨_, rfl⟩
      have tx116 : x116.toInt = x0.toInt + 6 := (jadd ex116 rfl jz_6 (by omega) (by omega)).trans (by omega)
      refine lv_iinc (v := x116) (lv' := [(3, .int x116), (2, .ref (ad 55)), (1, .ref (ad 0)), (0, .ref b)]) hx hb dL_law_1357 hl (k := 0) rfl (by rw [ex116]; rfl) (by decide) rfl (fun ls hl => ?_)
      refine lv_goto (tgt := 18) hx hb dL_law_1360 (by decide) ?_
      have I117 : jI2 σ95 := jI2_fr (congrFun (f97 2 (by decide)) 0) (congrFun (f97 2 (by decide)) 1) (congrFun (f97 2 (by decide)) 2) (congrFun (f97 2 (by decide)) 3) (f97 6 (by decide)) I19
      have I118 : jI9 σ95 := jI9_fr ((congrFun (f97 9 (by decide)) 0).trans (congrFun (f17 9 (by decide)) 0)) ((f97 10 (by decide)).trans (f17 10 (by decide))) ((f97 11 (by decide)).trans (f17 11 (by decide))) hI9
      have I119 : jI12 σ95 := jI12_fr ((congrFun (f97 12 (by decide)) 0).trans (congrFun (f17 12 (by decide)) 0)) ((f97 13 (by decide)).trans (f17 13 (by decide))) hI12
      have I120 : jI16 σ95 := jI16_fr ((congrFun (f97 16 (by decide)) 0).trans (congrFun (f17 16 (by decide)) 0)) ((congrFun (f97 16 (by decide)) 1).trans (congrFun (f17 16 (by decide)) 1)) ((congrFun (f97 16 (by decide)) 2).trans (congrFun (f17 16 (by decide)) 2)) ((f97 17 (by decide)).trans (f17 17 (by decide))) hI16
      have I121 : jI18 σ95 := jI18_fr ((congrFun (f97 18 (by decide)) 0).trans (congrFun (f17 18 (by decide)) 0)) ((f97 19 (by decide)).trans (f17 19 (by decide))) hI18
      have I122 : jI22 σ95 := jI22_fr ((congrFun (f97 22 (by decide)) 0).trans (congrFun (f17 22 (by decide)) 0)) ((f97 23 (by decide)).trans (f17 23 (by decide))) hI22
      have I123 : jI31 σ95 := jI31_fr ((congrFun (f97 31 (by decide)) 8).trans (congrFun (f17 31 (by decide)) 8)) ((f97 33 (by decide)).trans (f17 33 (by decide))) ((f97 36 (by decide)).trans (f17 36 (by decide))) hI31
      have I124 : jI38 σ95 := jI38_fr ((congrFun (f97 38 (by decide)) 0).trans (congrFun (f17 38 (by decide)) 0)) ((congrFun (f97 38 (by decide)) 1).trans (congrFun (f17 38 (by decide)) 1)) ((f97 39 (by decide)).trans (f17 39 (by decide))) hI38
      have I125 : jI43 σ95 := jI43_fr ((congrFun (f97 43 (by decide)) 8).trans (congrFun (f17 43 (by decide)) 8)) hI43
      have I126 : jI47 σ95 := jI47_fr ((congrFun (f97 47 (by decide)) 0).trans (congrFun (f17 47 (by decide)) 0)) ((f97 48 (by decide)).trans (f17 48 (by decide))) ((f97 49 (by decide)).trans (f17 49 (by decide))) hI47
      have I127 : jI50 σ95 := jI50_fr ((f97 52 (by decide)).trans (f17 52 (by decide))) hI50
      have I128 : jI103 σ95 := jI103_fr ((f98 9 (by decide)).trans (congrFun (f17 55 (by decide)) 9)) hI103
      have I129 : jI104 σ95 := jI104_fr ((f98 10 (by decide)).trans (congrFun (f17 55 (by decide)) 10)) ((f98 12 (by decide)).trans (congrFun (f17 55 (by decide)) 12)) ((f98 13 (by decide)).trans (congrFun (f17 55 (by decide)) 13)) ((f97 62 (by decide)).trans (f17 62 (by decide))) ((f97 67 (by decide)).trans (f17 67 (by decide))) hI104
      have I130 : jI105 σ95 := jI105_fr ((f98 15 (by decide)).trans (congrFun (f17 55 (by decide)) 15)) ((f97 65 (by decide)).trans (f17 65 (by decide))) hI105
      have I131 : jI106 σ95 := jI106_fr ((f98 32 (by decide)).trans (congrFun (f17 55 (by decide)) 32)) ((f97 70 (by decide)).trans (f17 70 (by decide))) ((f97 71 (by decide)).trans (f17 71 (by decide))) ((f97 72 (by decide)).trans (f17 72 (by decide))) hI106
      have I132 : jI107 σ95 := jI107_fr ((f98 12 (by decide)).trans (congrFun (f17 55 (by decide)) 12)) ((f98 47 (by decide)).trans (congrFun (f17 55 (by decide)) 47)) ((f97 80 (by decide)).trans (f17 80 (by decide))) hI107
      have I133 : jI109 σ95 := jI109_fr ((f98 50 (by decide)).trans (congrFun (f17 55 (by decide)) 50)) hI109
      have I134 : jI110 σ95 := jI110_fr ((f97 86 (by decide)).trans (f17 86 (by decide))) ((f97 87 (by decide)).trans (f17 87 (by decide))) hI110
      have I135 : jI111 σ95 := jI111_fr ((f97 79 (by decide)).trans (f17 79 (by decide))) hI111
      have I136 : jI119 σ95 := jI119_fr ((f97 68 (by decide)).trans (f17 68 (by decide))) hI119
      have p137 : jKept σ95 := jKept.fr ((f97 75 (by decide)).trans (f17 75 (by decide))) ((f97 76 (by decide)).trans (f17 76 (by decide))) ((f97 77 (by decide)).trans (f17 77 (by decide))) hs_jKept
      have p138 : jBook σ95 := jBook.fr ((f98 47 (by decide)).trans (congrFun (f17 55 (by decide)) 47)) ((f98 10 (by decide)).trans (congrFun (f17 55 (by decide)) 10)) ((f97 81 (by decide)).trans (f17 81 (by decide))) hs_jBook
      have z139 : (σ95 38 0).toInt = (σ 38 0).toInt := (congrArg Int32.toInt (show σ95 38 0 = (σ 38 0) from ((congrFun (f97 38 (by decide)) 0).trans (congrFun (f17 38 (by decide)) 0))))
      have z140 : (σ95 55 32).toInt = (σ 55 32).toInt := (congrArg Int32.toInt (show σ95 55 32 = (σ 55 32) from ((f98 32 (by decide)).trans (congrFun (f17 55 (by decide)) 32))))
      exact ih x116 σ95 τ _ _ ls (by have h9 := tx116; omega) ⟨I117, I118, I119, I120, I121, I122, I123, I124, I125, I126, I127, I99, I100, I128, I129, I130, I131, I132, I133, I134, I135, I136, p137, p138, (by omega), (show jShP (σ95 51) (σ95 52) (σ95 53) (σ95 86) (σ95 87) (σ95 55 32).toInt by rw [show σ95 51 = σ 51 from ((f97 51 (by decide)).trans (f17 51 (by decide))), show σ95 52 = σ 52 from ((f97 52 (by decide)).trans (f17 52 (by decide))), show σ95 53 = σ 53 from ((f97 53 (by decide)).trans (f17 53 (by decide))), show σ95 86 = σ 86 from ((f97 86 (by decide)).trans (f17 86 (by decide))), show σ95 87 = σ 87 from ((f97 87 (by decide)).trans (f17 87 (by decide)))]; exact (hr0.up (by omega) (by omega))), (show jKd (σ95 39) (σ95 70) (σ95 55 32).toInt by rw [show σ95 39 = σ 39 from ((f97 39 (by decide)).trans (f17 39 (by decide))), show σ95 70 = σ 70 from ((f97 70 (by decide)).trans (f17 70 (by decide))), show (σ95 55 32).toInt = (σ 55 32).toInt from by omega]; exact hr1)⟩ hP hS (lv_sub hl [0, 1, 2, 3] rfl)
    · obtain ⟨q148, k141, k142, k143, k144, k145, k146, k147⟩ := h104
      refine lv_pop hx hb dL_law_235 rfl ?_
      refine lv_goto (tgt := 1357) hx hb dL_law_236 (by decide) ?_
      obtain ⟨x149, ex149⟩ : ∃ y : Int32, y = x0 + 6 := ⟨_, rfl⟩
      have tx149 : x149.toInt = x0.toInt + 6 := (jadd ex149 rfl jz_6 (by omega) (by omega)).trans (by omega)
      refine lv_iinc (v := x149) (lv' := [(3, .int x149), (2, .ref (ad 55)), (1, .ref (ad 0)), (0, .ref b)]) hx hb dL_law_1357 hl (k := 0) rfl (by rw [ex149]; rfl) (by decide) rfl (fun ls hl => ?_)
      refine lv_goto (tgt := 18) hx hb dL_law_1360 (by decide) ?_
      have I150 : jI2 σ95 := jI2_fr (congrFun (f97 2 (by decide)) 0) (congrFun (f97 2 (by decide)) 1) (congrFun (f97 2 (by decide)) 2) (congrFun (f97 2 (by decide)) 3) (f97 6 (by decide)) I19
      have I151 : jI9 σ95 := jI9_fr ((congrFun (f97 9 (by decide)) 0).trans (congrFun (f17 9 (by decide)) 0)) ((f97 10 (by decide)).trans (f17 10 (by decide))) ((f97 11 (by decide)).trans (f17 11 (by decide))) hI9
      have I152 : jI12 σ95 := jI12_fr ((congrFun (f97 12 (by decide)) 0).trans (congrFun (f17 12 (by decide)) 0)) ((f97 13 (by decide)).trans (f17 13 (by decide))) hI12
      have I153 : jI16 σ95 := jI16_fr ((congrFun (f97 16 (by decide)) 0).trans (congrFun (f17 16 (by decide)) 0)) ((congrFun (f97 16 (by decide)) 1).trans (congrFun (f17 16 (by decide)) 1)) ((congrFun (f97 16 (by decide)) 2).trans (congrFun (f17 16 (by decide)) 2)) ((f97 17 (by decide)).trans (f17 17 (by decide))) hI16
      have I154 : jI18 σ95 := jI18_fr ((congrFun (f97 18 (by decide)) 0).trans (congrFun (f17 18 (by decide)) 0)) ((f97 19 (by decide)).trans (f17 19 (by decide))) hI18
      have I155 : jI22 σ95 := jI22_fr ((congrFun (f97 22 (by decide)) 0).trans (congrFun (f17 22 (by decide)) 0)) ((f97 23 (by decide)).trans (f17 23 (by decide))) hI22
      have I156 : jI31 σ95 := jI31_fr ((congrFun (f97 31 (by decide)) 8).trans (congrFun (f17 31 (by decide)) 8)) ((f97 33 (by decide)).trans (f17 33 (by decide))) ((f97 36 (by decide)).trans (f17 36 (by decide))) hI31
      have I157 : jI38 σ95 := jI38_fr ((congrFun (f97 38 (by decide)) 0).trans (congrFun (f17 38 (by decide)) 0)) ((congrFun (f97 38 (by decide)) 1).trans (congrFun (f17 38 (by decide)) 1)) ((f97 39 (by decide)).trans (f17 39 (by decide))) hI38
      have I158 : jI43 σ95 := jI43_fr ((congrFun (f97 43 (by decide)) 8).trans (congrFun (f17 43 (by decide)) 8)) hI43
      have I159 : jI47 σ95 := jI47_fr ((congrFun (f97 47 (by decide)) 0).trans (congrFun (f17 47 (by decide)) 0)) ((f97 48 (by decide)).trans (f17 48 (by decide))) ((f97 49 (by decide)).trans (f17 49 (by decide))) hI47
      have I160 : jI50 σ95 := jI50_fr ((f97 52 (by decide)).trans (f17 52 (by decide))) hI50
      have I161 : jI103 σ95 := jI103_fr ((f98 9 (by decide)).trans (congrFun (f17 55 (by decide)) 9)) hI103
      have I162 : jI104 σ95 := jI104_fr ((f98 10 (by decide)).trans (congrFun (f17 55 (by decide)) 10)) ((f98 12 (by decide)).trans (congrFun (f17 55 (by decide)) 12)) ((f98 13 (by decide)).trans (congrFun (f17 55 (by decide)) 13)) ((f97 62 (by decide)).trans (f17 62 (by decide))) ((f97 67 (by decide)).trans (f17 67 (by decide))) hI104
      have I163 : jI105 σ95 := jI105_fr ((f98 15 (by decide)).trans (congrFun (f17 55 (by decide)) 15)) ((f97 65 (by decide)).trans (f17 65 (by decide))) hI105
      have I164 : jI106 σ95 := jI106_fr ((f98 32 (by decide)).trans (congrFun (f17 55 (by decide)) 32)) ((f97 70 (by decide)).trans (f17 70 (by decide))) ((f97 71 (by decide)).trans (f17 71 (by decide))) ((f97 72 (by decide)).trans (f17 72 (by decide))) hI106
      have I165 : jI107 σ95 := jI107_fr ((f98 12 (by decide)).trans (congrFun (f17 55 (by decide)) 12)) ((f98 47 (by decide)).trans (congrFun (f17 55 (by decide)) 47)) ((f97 80 (by decide)).trans (f17 80 (by decide))) hI107
      have I166 : jI109 σ95 := jI109_fr ((f98 50 (by decide)).trans (congrFun (f17 55 (by decide)) 50)) hI109
      have I167 : jI110 σ95 := jI110_fr ((f97 86 (by decide)).trans (f17 86 (by decide))) ((f97 87 (by decide)).trans (f17 87 (by decide))) hI110
      have I168 : jI111 σ95 := jI111_fr ((f97 79 (by decide)).trans (f17 79 (by decide))) hI111
      have I169 : jI119 σ95 := jI119_fr ((f97 68 (by decide)).trans (f17 68 (by decide))) hI119
      have p170 : jKept σ95 := jKept.fr ((f97 75 (by decide)).trans (f17 75 (by decide))) ((f97 76 (by decide)).trans (f17 76 (by decide))) ((f97 77 (by decide)).trans (f17 77 (by decide))) hs_jKept
      have p171 : jBook σ95 := jBook.fr ((f98 47 (by decide)).trans (congrFun (f17 55 (by decide)) 47)) ((f98 10 (by decide)).trans (congrFun (f17 55 (by decide)) 10)) ((f97 81 (by decide)).trans (f17 81 (by decide))) hs_jBook
      have z172 : (σ95 38 0).toInt = (σ 38 0).toInt := (congrArg Int32.toInt (show σ95 38 0 = (σ 38 0) from ((congrFun (f97 38 (by decide)) 0).trans (congrFun (f17 38 (by decide)) 0))))
      have z173 : (σ95 55 32).toInt = (σ 55 32).toInt := (congrArg Int32.toInt (show σ95 55 32 = (σ 55 32) from ((f98 32 (by decide)).trans (congrFun (f17 55 (by decide)) 32))))
      exact ih x149 σ95 τ _ _ ls (by have h9 := tx149; omega) ⟨I150, I151, I152, I153, I154, I155, I156, I157, I158, I159, I160, I99, I100, I161, I162, I163, I164, I165, I166, I167, I168, I169, p170, p171, (by omega), (show jShP (σ95 51) (σ95 52) (σ95 53) (σ95 86) (σ95 87) (σ95 55 32).toInt by rw [show σ95 51 = σ 51 from ((f97 51 (by decide)).trans (f17 51 (by decide))), show σ95 52 = σ 52 from ((f97 52 (by decide)).trans (f17 52 (by decide))), show σ95 53 = σ 53 from ((f97 53 (by decide)).trans (f17 53 (by decide))), show σ95 86 = σ 86 from ((f97 86 (by decide)).trans (f17 86 (by decide))), show σ95 87 = σ 87 from ((f97 87 (by decide)).trans (f17 87 (by decide)))]; exact (hr0.up (by omega) (by omega))), (show jKd (σ95 39) (σ95 70) (σ95 55 32).toInt by rw [show σ95 39 = σ 39 from ((f97 39 (by decide)).trans (f17 39 (by decide))), show σ95 70 = σ 70 from ((f97 70 (by decide)).trans (f17 70 (by decide))), show (σ95 55 32).toInt = (σ 55 32).toInt from by omega]; exact hr1)⟩ hP hS (lv_sub hl [0, 1, 2, 3] rfl)
  · obtain ⟨q181, k174, k175, k176, k177, k178, k179, k180⟩ := h23
    refine lv_pop hx hb dL_law_215 rfl ?_
    refine lv_aload_n hx hb dL_law_216 rfl (lv_at hl 1 rfl) ?_
    refine lv_aload_n hx hb dL_law_217 rfl (lv_at hl 3 rfl) ?_
    refine lv_iload_n hx hb dL_law_218 rfl (lv_at hl 0 rfl) ?_
    refine lv_iconst (v := 1) hx hb dL_law_219 (by decide) ?_
    refine lv_iadd hx hb dL_law_220 ?_
    refine jtopr ex9.symm ?_
    refine va_sld hx hb hX hbl hbA hS (jin tx9 (by omega) (by omega)) dL_law_221 ?_
    refine lv_aload_n hx hb dL_law_222 rfl (lv_at hl 3 rfl) ?_
    refine lv_iload_n hx hb dL_law_223 rfl (lv_at hl 0 rfl) ?_
    refine lv_iconst (v := 2) hx hb dL_law_224 (by decide) ?_
    refine lv_iadd hx hb dL_law_225 ?_
    refine jtopr ex11.symm ?_
    refine va_sld hx hb hX hbl hbA hS (jin tx11 (by omega) (by omega)) dL_law_226 ?_
    refine lv_aload_n hx hb dL_law_227 rfl (lv_at hl 3 rfl) ?_
    refine lv_iload_n hx hb dL_law_228 rfl (lv_at hl 0 rfl) ?_
    refine lv_iconst (v := 3) hx hb dL_law_229 (by decide) ?_
    refine lv_iadd hx hb dL_law_230 ?_
    refine jtopr ex13.symm ?_
    refine va_sld hx hb hX hbl hbA hS (jin tx13 (by omega) (by omega)) dL_law_231 ?_
    have I182 : jI101 σ15 := jI101_fr (congrFun (f17 55 (by decide)) 4) (congrFun (f17 55 (by decide)) 5) (f17 56 (by decide)) (f17 57 (by decide)) (f17 58 (by decide)) (f17 59 (by decide)) hI101
    have I183 : jI102 σ15 := jI102_fr (congrFun (f17 55 (by decide)) 6) (f17 60 (by decide)) (f17 61 (by decide)) hI102
    have z184 : (σ15 55 6).toInt = (σ 55 6).toInt := (congrArg Int32.toInt (show σ15 55 6 = (σ 55 6) from (congrFun (f17 55 (by decide)) 6)))
    refine jcallV (As := [.int (xs x9.toNatClampNeg), .int (xs x11.toNatClampNeg), .int (xs x13.toNatClampNeg)]) (rest := []) ⟨hx, hb, hml, hown, hts⟩ hK hP hA hS hZ (c_X12_bowler l D cI cL ad zz hJ σ15 τ (xs x9.toNatClampNeg) ((xs x9.toNatClampNeg).toInt) rfl (xs x11.toNatClampNeg) ((xs x11.toNatClampNeg).toInt) rfl (xs x13.toNatClampNeg) ((xs x13.toNatClampNeg).toInt) rfl I182 I183) cw_RL_17 (jc_55 cI cL ad σ15 τ) rfl ⟨Nat.le_of_ble_eq_true rfl, Nat.le_of_ble_eq_true rfl⟩ rfl rfl rfl hl.1 rfl (Nat.le_of_ble_eq_true rfl) dL_law_232 ⟨Nat.le_of_ble_eq_true rfl, Nat.le_of_ble_eq_true rfl⟩ (fun r186 σ185 τ185 H locs h185 hP hS => ?_)
    obtain ⟨rfl, f187, f188, I189, I190, h185⟩ := h185
    rcases h185 with h192 | h193 | h194
    · obtain ⟨q198, k195, k196, k197⟩ := h192
      exact absurd (by omega : False) id
    · obtain ⟨q205, k199, k200, k201, k202, k203, k204⟩ := h193
      have q205 := q205.symm
      subst q205
      refine lv_pop hx hb dL_law_235 rfl ?_
      refine lv_goto (tgt := 1357) hx hb dL_law_236 (by decide) ?_
      obtain ⟨x206, ex206⟩ : ∃ y : Int32, y = x0 + 6 := ⟨_, rfl⟩
      have tx206 : x206.toInt = x0.toInt + 6 := (jadd ex206 rfl jz_6 (by omega) (by omega)).trans (by omega)
      refine lv_iinc (v := x206) (lv' := [(3, .int x206), (2, .ref (ad 55)), (1, .ref (ad 0)), (0, .ref b)]) hx hb dL_law_1357 hl (k := 0) rfl (by rw [ex206]; rfl) (by decide) rfl (fun ls hl => ?_)
      refine lv_goto (tgt := 18) hx hb dL_law_1360 (by decide) ?_
      have I207 : jI2 σ185 := jI2_fr (congrFun (f187 2 (by decide)) 0) (congrFun (f187 2 (by decide)) 1) (congrFun (f187 2 (by decide)) 2) (congrFun (f187 2 (by decide)) 3) (f187 6 (by decide)) I19
      have I208 : jI9 σ185 := jI9_fr ((congrFun (f187 9 (by decide)) 0).trans (congrFun (f17 9 (by decide)) 0)) ((f187 10 (by decide)).trans (f17 10 (by decide))) ((f187 11 (by decide)).trans (f17 11 (by decide))) hI9
      have I209 : jI12 σ185 := jI12_fr ((congrFun (f187 12 (by decide)) 0).trans (congrFun (f17 12 (by decide)) 0)) ((f187 13 (by decide)).trans (f17 13 (by decide))) hI12
      have I210 : jI16 σ185 := jI16_fr ((congrFun (f187 16 (by decide)) 0).trans (congrFun (f17 16 (by decide)) 0)) ((congrFun (f187 16 (by decide)) 1).trans (congrFun (f17 16 (by decide)) 1)) ((congrFun (f187 16 (by decide)) 2).trans (congrFun (f17 16 (by decide)) 2)) ((f187 17 (by decide)).trans (f17 17 (by decide))) hI16
      have I211 : jI18 σ185 := jI18_fr ((congrFun (f187 18 (by decide)) 0).trans (congrFun (f17 18 (by decide)) 0)) ((f187 19 (by decide)).trans (f17 19 (by decide))) hI18
      have I212 : jI22 σ185 := jI22_fr ((congrFun (f187 22 (by decide)) 0).trans (congrFun (f17 22 (by decide)) 0)) ((f187 23 (by decide)).trans (f17 23 (by decide))) hI22
      have I213 : jI31 σ185 := jI31_fr ((congrFun (f187 31 (by decide)) 8).trans (congrFun (f17 31 (by decide)) 8)) ((f187 33 (by decide)).trans (f17 33 (by decide))) ((f187 36 (by decide)).trans (f17 36 (by decide))) hI31
      have I214 : jI38 σ185 := jI38_fr ((congrFun (f187 38 (by decide)) 0).trans (congrFun (f17 38 (by decide)) 0)) ((congrFun (f187 38 (by decide)) 1).trans (congrFun (f17 38 (by decide)) 1)) ((f187 39 (by decide)).trans (f17 39 (by decide))) hI38
      have I215 : jI43 σ185 := jI43_fr ((congrFun (f187 43 (by decide)) 8).trans (congrFun (f17 43 (by decide)) 8)) hI43
      have I216 : jI47 σ185 := jI47_fr ((congrFun (f187 47 (by decide)) 0).trans (congrFun (f17 47 (by decide)) 0)) ((f187 48 (by decide)).trans (f17 48 (by decide))) ((f187 49 (by decide)).trans (f17 49 (by decide))) hI47
      have I217 : jI50 σ185 := jI50_fr ((f187 52 (by decide)).trans (f17 52 (by decide))) hI50
      have I218 : jI103 σ185 := jI103_fr ((f188 9 (by decide)).trans (congrFun (f17 55 (by decide)) 9)) hI103
      have I219 : jI104 σ185 := jI104_fr ((f188 10 (by decide)).trans (congrFun (f17 55 (by decide)) 10)) ((f188 12 (by decide)).trans (congrFun (f17 55 (by decide)) 12)) ((f188 13 (by decide)).trans (congrFun (f17 55 (by decide)) 13)) ((f187 62 (by decide)).trans (f17 62 (by decide))) ((f187 67 (by decide)).trans (f17 67 (by decide))) hI104
      have I220 : jI105 σ185 := jI105_fr ((f188 15 (by decide)).trans (congrFun (f17 55 (by decide)) 15)) ((f187 65 (by decide)).trans (f17 65 (by decide))) hI105
      have I221 : jI106 σ185 := jI106_fr ((f188 32 (by decide)).trans (congrFun (f17 55 (by decide)) 32)) ((f187 70 (by decide)).trans (f17 70 (by decide))) ((f187 71 (by decide)).trans (f17 71 (by decide))) ((f187 72 (by decide)).trans (f17 72 (by decide))) hI106
      have I222 : jI107 σ185 := jI107_fr ((f188 12 (by decide)).trans (congrFun (f17 55 (by decide)) 12)) ((f188 47 (by decide)).trans (congrFun (f17 55 (by decide)) 47)) ((f187 80 (by decide)).trans (f17 80 (by decide))) hI107
      have I223 : jI109 σ185 := jI109_fr ((f188 50 (by decide)).trans (congrFun (f17 55 (by decide)) 50)) hI109
      have I224 : jI110 σ185 := jI110_fr ((f187 86 (by decide)).trans (f17 86 (by decide))) ((f187 87 (by decide)).trans (f17 87 (by decide))) hI110
      have I225 : jI111 σ185 := jI111_fr ((f187 79 (by decide)).trans (f17 79 (by decide))) hI111
      have I226 : jI119 σ185 := jI119_fr ((f187 68 (by decide)).trans (f17 68 (by decide))) hI119
      have p227 : jKept σ185 := jKept.fr ((f187 75 (by decide)).trans (f17 75 (by decide))) ((f187 76 (by decide)).trans (f17 76 (by decide))) ((f187 77 (by decide)).trans (f17 77 (by decide))) hs_jKept
      have p228 : jBook σ185 := jBook.fr ((f188 47 (by decide)).trans (congrFun (f17 55 (by decide)) 47)) ((f188 10 (by decide)).trans (congrFun (f17 55 (by decide)) 10)) ((f187 81 (by decide)).trans (f17 81 (by decide))) hs_jBook
      have z229 : (σ185 38 0).toInt = (σ 38 0).toInt := (congrArg Int32.toInt (show σ185 38 0 = (σ 38 0) from ((congrFun (f187 38 (by decide)) 0).trans (congrFun (f17 38 (by decide)) 0))))
      have z230 : (σ185 55 32).toInt = (σ 55 32).toInt := (congrArg Int32.toInt (show σ185 55 32 = (σ 55 32) from ((f188 32 (by decide)).trans (congrFun (f17 55 (by decide)) 32))))
      exact ih x206 σ185 τ _ _ ls (by have h9 := tx206; omega) ⟨I207, I208, I209, I210, I211, I212, I213, I214, I215, I216, I217, I189, I190, I218, I219, I220, I221, I222, I223, I224, I225, I226, p227, p228, (by omega), (show jShP (σ185 51) (σ185 52) (σ185 53) (σ185 86) (σ185 87) (σ185 55 32).toInt by rw [show σ185 51 = σ 51 from ((f187 51 (by decide)).trans (f17 51 (by decide))), show σ185 52 = σ 52 from ((f187 52 (by decide)).trans (f17 52 (by decide))), show σ185 53 = σ 53 from ((f187 53 (by decide)).trans (f17 53 (by decide))), show σ185 86 = σ 86 from ((f187 86 (by decide)).trans (f17 86 (by decide))), show σ185 87 = σ 87 from ((f187 87 (by decide)).trans (f17 87 (by decide)))]; exact (hr0.up (by omega) (by omega))), (show jKd (σ185 39) (σ185 70) (σ185 55 32).toInt by rw [show σ185 39 = σ 39 from ((f187 39 (by decide)).trans (f17 39 (by decide))), show σ185 70 = σ 70 from ((f187 70 (by decide)).trans (f17 70 (by decide))), show (σ185 55 32).toInt = (σ 55 32).toInt from by omega]; exact hr1)⟩ hP hS (lv_sub hl [0, 1, 2, 3] rfl)
    · obtain ⟨q238, k231, k232, k233, k234, k235, k236, k237⟩ := h194
      refine lv_pop hx hb dL_law_235 rfl ?_
      refine lv_goto (tgt := 1357) hx hb dL_law_236 (by decide) ?_
      obtain ⟨x239, ex239⟩ : ∃ y : Int32, y = x0 + 6 := ⟨_, rfl⟩
      have tx239 : x239.toInt = x0.toInt + 6 := (jadd ex239 rfl jz_6 (by omega) (by omega)).trans (by omega)
      refine lv_iinc (v := x239) (lv' := [(3, .int x239), (2, .ref (ad 55)), (1, .ref (ad 0)), (0, .ref b)]) hx hb dL_law_1357 hl (k := 0) rfl (by rw [ex239]; rfl) (by decide) rfl (fun ls hl => ?_)
      refine lv_goto (tgt := 18) hx hb dL_law_1360 (by decide) ?_
      have I240 : jI2 σ185 := jI2_fr (congrFun (f187 2 (by decide)) 0) (congrFun (f187 2 (by decide)) 1) (congrFun (f187 2 (by decide)) 2) (congrFun (f187 2 (by decide)) 3) (f187 6 (by decide)) I19
      have I241 : jI9 σ185 := jI9_fr ((congrFun (f187 9 (by decide)) 0).trans (congrFun (f17 9 (by decide)) 0)) ((f187 10 (by decide)).trans (f17 10 (by decide))) ((f187 11 (by decide)).trans (f17 11 (by decide))) hI9
      have I242 : jI12 σ185 := jI12_fr ((congrFun (f187 12 (by decide)) 0).trans (congrFun (f17 12 (by decide)) 0)) ((f187 13 (by decide)).trans (f17 13 (by decide))) hI12
      have I243 : jI16 σ185 := jI16_fr ((congrFun (f187 16 (by decide)) 0).trans (congrFun (f17 16 (by decide)) 0)) ((congrFun (f187 16 (by decide)) 1).trans (congrFun (f17 16 (by decide)) 1)) ((congrFun (f187 16 (by decide)) 2).trans (congrFun (f17 16 (by decide)) 2)) ((f187 17 (by decide)).trans (f17 17 (by decide))) hI16
      have I244 : jI18 σ185 := jI18_fr ((congrFun (f187 18 (by decide)) 0).trans (congrFun (f17 18 (by decide)) 0)) ((f187 19 (by decide)).trans (f17 19 (by decide))) hI18
      have I245 : jI22 σ185 := jI22_fr ((congrFun (f187 22 (by decide)) 0).trans (congrFun (f17 22 (by decide)) 0)) ((f187 23 (by decide)).trans (f17 23 (by decide))) hI22
      have I246 : jI31 σ185 := jI31_fr ((congrFun (f187 31 (by decide)) 8).trans (congrFun (f17 31 (by decide)) 8)) ((f187 33 (by decide)).trans (f17 33 (by decide))) ((f187 36 (by decide)).trans (f17 36 (by decide))) hI31
      have I247 : jI38 σ185 := jI38_fr ((congrFun (f187 38 (by decide)) 0).trans (congrFun (f17 38 (by decide)) 0)) ((congrFun (f187 38 (by decide)) 1).trans (congrFun (f17 38 (by decide)) 1)) ((f187 39 (by decide)).trans (f17 39 (by decide))) hI38
      have I248 : jI43 σ185 := jI43_fr ((congrFun (f187 43 (by decide)) 8).trans (congrFun (f17 43 (by decide)) 8)) hI43
      have I249 : jI47 σ185 := jI47_fr ((congrFun (f187 47 (by decide)) 0).trans (congrFun (f17 47 (by decide)) 0)) ((f187 48 (by decide)).trans (f17 48 (by decide))) ((f187 49 (by decide)).trans (f17 49 (by decide))) hI47
      have I250 : jI50 σ185 := jI50_fr ((f187 52 (by decide)).trans (f17 52 (by decide))) hI50
      have I251 : jI103 σ185 := jI103_fr ((f188 9 (by decide)).trans (congrFun (f17 55 (by decide)) 9)) hI103
      have I252 : jI104 σ185 := jI104_fr ((f188 10 (by decide)).trans (congrFun (f17 55 (by decide)) 10)) ((f188 12 (by decide)).trans (congrFun (f17 55 (by decide)) 12)) ((f188 13 (by decide)).trans (congrFun (f17 55 (by decide)) 13)) ((f187 62 (by decide)).trans (f17 62 (by decide))) ((f187 67 (by decide)).trans (f17 67 (by decide))) hI104
      have I253 : jI105 σ185 := jI105_fr ((f188 15 (by decide)).trans (congrFun (f17 55 (by decide)) 15)) ((f187 65 (by decide)).trans (f17 65 (by decide))) hI105
      have I254 : jI106 σ185 := jI106_fr ((f188 32 (by decide)).trans (congrFun (f17 55 (by decide)) 32)) ((f187 70 (by decide)).trans (f17 70 (by decide))) ((f187 71 (by decide)).trans (f17 71 (by decide))) ((f187 72 (by decide)).trans (f17 72 (by decide))) hI106
      have I255 : jI107 σ185 := jI107_fr ((f188 12 (by decide)).trans (congrFun (f17 55 (by decide)) 12)) ((f188 47 (by decide)).trans (congrFun (f17 55 (by decide)) 47)) ((f187 80 (by decide)).trans (f17 80 (by decide))) hI107
      have I256 : jI109 σ185 := jI109_fr ((f188 50 (by decide)).trans (congrFun (f17 55 (by decide)) 50)) hI109
      have I257 : jI110 σ185 := jI110_fr ((f187 86 (by decide)).trans (f17 86 (by decide))) ((f187 87 (by decide)).trans (f17 87 (by decide))) hI110
      have I258 : jI111 σ185 := jI111_fr ((f187 79 (by decide)).trans (f17 79 (by decide))) hI111
      have I259 : jI119 σ185 := jI119_fr ((f187 68 (by decide)).trans (f17 68 (by decide))) hI119
      have p260 : jKept σ185 := jKept.fr ((f187 75 (by decide)).trans (f17 75 (by decide))) ((f187 76 (by decide)).trans (f17 76 (by decide))) ((f187 77 (by decide)).trans (f17 77 (by decide))) hs_jKept
      have p261 : jBook σ185 := jBook.fr ((f188 47 (by decide)).trans (congrFun (f17 55 (by decide)) 47)) ((f188 10 (by decide)).trans (congrFun (f17 55 (by decide)) 10)) ((f187 81 (by decide)).trans (f17 81 (by decide))) hs_jBook
      have z262 : (σ185 38 0).toInt = (σ 38 0).toInt := (congrArg Int32.toInt (show σ185 38 0 = (σ 38 0) from ((congrFun (f187 38 (by decide)) 0).trans (congrFun (f17 38 (by decide)) 0))))
      have z263 : (σ185 55 32).toInt = (σ 55 32).toInt := (congrArg Int32.toInt (show σ185 55 32 = (σ 55 32) from ((f188 32 (by decide)).trans (congrFun (f17 55 (by decide)) 32))))
      exact ih x239 σ185 τ _ _ ls (by have h9 := tx239; omega) ⟨I240, I241, I242, I243, I244, I245, I246, I247, I248, I249, I250, I189, I190, I251, I252, I253, I254, I255, I256, I257, I258, I259, p260, p261, (by omega), (show jShP (σ185 51) (σ185 52) (σ185 53) (σ185 86) (σ185 87) (σ185 55 32).toInt by rw [show σ185 51 = σ 51 from ((f187 51 (by decide)).trans (f17 51 (by decide))), show σ185 52 = σ 52 from ((f187 52 (by decide)).trans (f17 52 (by decide))), show σ185 53 = σ 53 from ((f187 53 (by decide)).trans (f17 53 (by decide))), show σ185 86 = σ 86 from ((f187 86 (by decide)).trans (f17 86 (by decide))), show σ185 87 = σ 87 from ((f187 87 (by decide)).trans (f17 87 (by decide)))]; exact (hr0.up (by omega) (by omega))), (show jKd (σ185 39) (σ185 70) (σ185 55 32).toInt by rw [show σ185 39 = σ 39 from ((f187 39 (by decide)).trans (f17 39 (by decide))), show σ185 70 = σ 70 from ((f187 70 (by decide)).trans (f17 70 (by decide))), show (σ185 55 32).toInt = (σ 55 32).toInt from by omega]; exact hr1)⟩ hP hS (lv_sub hl [0, 1, 2, 3] rfl)
set_option maxHeartbeats 4000000 in
set_option maxRecDepth 100000 in
theorem law_case_1 {p : Program} {e : Env} {s : State} {m : MethodId} {below : List Frame} {meth : Method} {c : Code} (l : Launch) {b L : Nat} {xs : Nat → Int32} {D : va_G} {cI cL : ClassId} {ad zz : Nat → Nat} (C0 : lw_At p s m meth c b L xs) (hJ : jD ad) (hA : ∀ q, jA ad q → s.heap.size ≤ q) (hK : jK D cI cL s) (hZ : jZ zz (fun q : Nat => s.heap.size ≤ q) s s.heap) {x0 : Int32} (hx0 : 0 ≤ x0.toInt) (hxL : x0.toInt + 6 ≤ (L : Int)) (hL : L ≤ 384) {σ : Nat → Nat → Int32} {τ : Nat → Nat → Int64} {H : Heap} {locs : List Loc} (hS : va_S (fun q : Nat => s.heap.size ≤ q) s.heap H locs) {ls : Array Slot} (hAll : jAll σ τ) (hP : jH D cI cL ad σ τ H) (hl : lv_has ls 4 [(3, .int x0), (2, .ref (ad 55)), (1, .ref (ad 0)), (0, .ref b)]) (ih : ∀ (x1 : Int32) (σ : Nat → Nat → Int32) (τ : Nat → Nat → Int64) (H : Heap) (locs : List Loc) (ls : Array Slot), x1.toInt = x0.toInt + 6 → jAll σ τ → jH D cI cL ad σ τ H → va_S (fun q : Nat => s.heap.size ≤ q) s.heap H locs → lv_has ls 4 [(3, .int x1), (2, .ref (ad 55)), (1, .ref (ad 0)), (0, .ref b)] → W p l e room_1 s m #[Value.ref b] below meth c H locs 90 348600 (lw_Z below #[Value.ref b] s) (F0 m 18 ls [])) : W p l e room_1 s m #[Value.ref b] below meth c H locs 90 348600 (lw_Z below #[Value.ref b] s) (F0 m 239 ls []) := by
  obtain ⟨hx, hb, hr, hml, hown, hts0, hX, hbl, hlocks, hgv⟩ := C0
  have hts : ∀ w ∈ wsL_law, w.before #[Value.ref b] s = true := fun w h => hts0 w (wsL_law_in w h)
  have hbA : ¬ (fun q : Nat => s.heap.size ≤ q) b := Nat.not_le.mpr hbl
  have hown : s.vm.findClass RL = some m.cls := hown
  obtain ⟨hI2, hI9, hI12, hI16, hI18, hI22, hI31, hI38, hI43, hI47, hI50, hI101, hI102, hI103, hI104, hI105, hI106, hI107, hI109, hI110, hI111, hI119, hs_jKept, hs_jBook, ht0, hr0, hr1⟩ := hAll
  have hL9 : (L : Int) ≤ 384 := by omega
  obtain ⟨i1, i2, w3⟩ : (0 ≤ (σ 38 0).toInt ∧ (σ 38 0).toInt ≤ 20) ∧ (0 ≤ (σ 38 1).toInt ∧ (σ 38 1).toInt ≤ 1000) ∧ (∀ k : Nat, k < 20 → 0 ≤ (σ 39 k).toInt ∧ (σ 39 k).toInt ≤ 6) := id hI38
  obtain ⟨i4, w5, w6, w7⟩ : (0 ≤ (σ 55 32).toInt ∧ (σ 55 32).toInt ≤ 20) ∧ (∀ k : Nat, k < 20 → 0 ≤ (σ 70 k).toInt ∧ (σ 70 k).toInt ≤ 6) ∧ (∀ k : Nat, k < 20 → 0 ≤ (σ 71 k).toInt ∧ (σ 71 k).toInt ≤ 8) ∧ (∀ k : Nat, k < 160 → 0 ≤ (σ 72 k).toInt ∧ (σ 72 k).toInt ≤ 3) := id hI106
  refine lv_aload_n hx hb dL_law_239 rfl (lv_at hl 2 rfl) ?_
  refine lv_aload_n hx hb dL_law_240 rfl (lv_at hl 3 rfl) ?_
  refine lv_iload_n hx hb dL_law_241 rfl (lv_at hl 0 rfl) ?_
  refine lv_iconst (v := 1) hx hb dL_law_242 (by decide) ?_
  have g8 := jrg (rfl : x0.toInt = x0.toInt)
  refine lv_iadd hx hb dL_law_243 ?_
  refine lv_topi (fun x9 ex9 => ?_)
  have tx9 : x9.toInt = x0.toInt + 1 := (jadd ex9 rfl jz_1 (by omega) (by omega)).trans (by omega)
  refine va_sld hx hb hX hbl hbA hS (jin tx9 (by omega) (by omega)) dL_law_244 ?_
  have g10 := jrg (rfl : (xs x9.toNatClampNeg).toInt = (xs x9.toNatClampNeg).toInt)
  refine lv_aload_n hx hb dL_law_245 rfl (lv_at hl 3 rfl) ?_
  refine lv_iload_n hx hb dL_law_246 rfl (lv_at hl 0 rfl) ?_
  refine lv_iconst (v := 2) hx hb dL_law_247 (by decide) ?_
  refine lv_iadd hx hb dL_law_248 ?_
  refine lv_topi (fun x11 ex11 => ?_)
  have tx11 : x11.toInt = x0.toInt + 2 := (jadd ex11 rfl jz_2 (by omega) (by omega)).trans (by omega)
  refine va_sld hx hb hX hbl hbA hS (jin tx11 (by omega) (by omega)) dL_law_249 ?_
  have g12 := jrg (rfl : (xs x11.toNatClampNeg).toInt = (xs x11.toNatClampNeg).toInt)
  refine lv_aload_n hx hb dL_law_250 rfl (lv_at hl 3 rfl) ?_
  refine lv_iload_n hx hb dL_law_251 rfl (lv_at hl 0 rfl) ?_
  refine lv_iconst (v := 3) hx hb dL_law_252 (by decide) ?_
  refine lv_iadd hx hb dL_law_253 ?_
  refine lv_topi (fun x13 ex13 => ?_)
  have tx13 : x13.toInt = x0.toInt + 3 := (jadd ex13 rfl jz_3 (by omega) (by omega)).trans (by omega)
  refine va_sld hx hb hX hbl hbA hS (jin tx13 (by omega) (by omega)) dL_law_254 ?_
  have g14 := jrg (rfl : (xs x13.toNatClampNeg).toInt = (xs x13.toNatClampNeg).toInt)
  refine jcallV (As := [.int (xs x9.toNatClampNeg), .int (xs x11.toNatClampNeg), .int (xs x13.toNatClampNeg)]) (rest := []) ⟨hx, hb, hml, hown, hts⟩ hK hP hA hS hZ (c_X11_edge l D cI cL ad zz hJ σ τ (xs x9.toNatClampNeg) ((xs x9.toNatClampNeg).toInt) rfl (xs x11.toNatClampNeg) ((xs x11.toNatClampNeg).toInt) rfl (xs x13.toNatClampNeg) ((xs x13.toNatClampNeg).toInt) rfl hI2) cw_RL_18 (jc_0 cI cL ad σ τ) rfl ⟨Nat.le_of_ble_eq_true rfl, Nat.le_of_ble_eq_true rfl⟩ rfl rfl rfl hl.1 rfl (Nat.le_of_ble_eq_true rfl) dL_law_255 ⟨Nat.le_of_ble_eq_true rfl, Nat.le_of_ble_eq_true rfl⟩ (fun r16 σ15 τ15 H locs h15 hP hS => ?_)
  obtain ⟨rfl, f17, f18, I19, h15⟩ := h15
  rcases h15 with h21 | h22
  · obtain ⟨q27, k23, k24, k25, k26⟩ := h21
    have q27 := q27.symm
    subst q27
    refine lv_pop hx hb dL_law_258 rfl ?_
    refine lv_aload_n hx hb dL_law_259 rfl (lv_at hl 1 rfl) ?_
    refine lv_aload_n hx hb dL_law_260 rfl (lv_at hl 3 rfl) ?_
    refine lv_iload_n hx hb dL_law_261 rfl (lv_at hl 0 rfl) ?_
    refine lv_iconst (v := 1) hx hb dL_law_262 (by decide) ?_
    refine lv_iadd hx hb dL_law_263 ?_
    refine jtopr ex9.symm ?_
    refine va_sld hx hb hX hbl hbA hS (jin tx9 (by omega) (by omega)) dL_law_264 ?_
    refine lv_aload_n hx hb dL_law_265 rfl (lv_at hl 3 rfl) ?_
    refine lv_iload_n hx hb dL_law_266 rfl (lv_at hl 0 rfl) ?_
    refine lv_iconst (v := 2) hx hb dL_law_267 (by decide) ?_
    refine lv_iadd hx hb dL_law_268 ?_
    refine jtopr ex11.symm ?_
    refine va_sld hx hb hX hbl hbA hS (jin tx11 (by omega) (by omega)) dL_law_269 ?_
    refine lv_aload_n hx hb dL_law_270 rfl (lv_at hl 3 rfl) ?_
    refine lv_iload_n hx hb dL_law_271 rfl (lv_at hl 0 rfl) ?_
    refine lv_iconst (v := 3) hx hb dL_law_272 (by decide) ?_
    refine lv_iadd hx hb dL_law_273 ?_
    refine jtopr ex13.symm ?_
    refine va_sld hx hb hX hbl hbA hS (jin tx13 (by omega) (by omega)) dL_law_274 ?_
    have I28 : jI101 σ15 := jI101_fr (congrFun (f17 55 (by decide)) 4) (congrFun (f17 55 (by decide)) 5) (f17 56 (by decide)) (f17 57 (by decide)) (f17 58 (by decide)) (f17 59 (by decide)) hI101
    have I29 : jI102 σ15 := jI102_fr (congrFun (f17 55 (by decide)) 6) (f17 60 (by decide)) (f17 61 (by decide)) hI102
    have z30 : (σ15 55 5).toInt = (σ 55 5).toInt := (congrArg Int32.toInt (show σ15 55 5 = (σ 55 5) from (congrFun (f17 55 (by decide)) 5)))
    have z31 : (σ15 55 4).toInt = (σ 55 4).toInt := (congrArg Int32.toInt (show σ15 55 4 = (σ 55 4) from (congrFun (f17 55 (by decide)) 4)))
    refine jcallV (As := [.int (xs x9.toNatClampNeg), .int (xs x11.toNatClampNeg), .int (xs x13.toNatClampNeg)]) (rest := []) ⟨hx, hb, hml, hown, hts⟩ hK hP hA hS hZ (c_X12_edge l D cI cL ad zz hJ σ15 τ (xs x9.toNatClampNeg) ((xs x9.toNatClampNeg).toInt) rfl (xs x11.toNatClampNeg) ((xs x11.toNatClampNeg).toInt) rfl (xs x13.toNatClampNeg) ((xs x13.toNatClampNeg).toInt) rfl I28 I29) cw_RL_21 (jc_55 cI cL ad σ15 τ) rfl ⟨Nat.le_of_ble_eq_true rfl, Nat.le_of_ble_eq_true rfl⟩ rfl rfl rfl hl.1 rfl (Nat.le_of_ble_eq_true rfl) dL_law_275 ⟨Nat.le_of_ble_eq_true rfl, Nat.le_of_ble_eq_true rfl⟩ (fun r33 σ32 τ32 H locs h32 hP hS => ?_)
    obtain ⟨rfl, f34, f35, I36, h32⟩ := h32
    rcases h32 with h38 | h39
    · obtain ⟨q44, k40, k41, k42, k43⟩ := h38
      have q44 := q44.symm
      subst q44
      refine lv_pop hx hb dL_law_278 rfl ?_
      refine lv_goto (tgt := 1357) hx hb dL_law_279 (by decide) ?_
      obtain ⟨x45, ex45⟩ : ∃ y : Int32, y = x0 + 6 := ⟨_, rfl⟩
      have tx45 : x45.toInt = x0.toInt + 6 := (jadd ex45 rfl jz_6 (by omega) (by omega)).trans (by omega)
      refine lv_iinc (v := x45) (lv' := [(3, .int x45), (2, .ref (ad 55)), (1, .ref (ad 0)), (0, .ref b)]) hx hb dL_law_1357 hl (k := 0) rfl (by rw [ex45]; rfl) (by decide) rfl (fun ls hl => ?_)
      refine lv_goto (tgt := 18) hx hb dL_law_1360 (by decide) ?_
      have I46 : jI2 σ32 := jI2_fr (congrFun (f34 2 (by decide)) 0) (congrFun (f34 2 (by decide)) 1) (congrFun (f34 2 (by decide)) 2) (congrFun (f34 2 (by decide)) 3) (f34 6 (by decide)) I19
      have I47 : jI9 σ32 := jI9_fr ((congrFun (f34 9 (by decide)) 0).trans (congrFun (f17 9 (by decide)) 0)) ((f34 10 (by decide)).trans (f17 10 (by decide))) ((f34 11 (by decide)).trans (f17 11 (by decide))) hI9
      have I48 : jI12 σ32 := jI12_fr ((congrFun (f34 12 (by decide)) 0).trans (congrFun (f17 12 (by decide)) 0)) ((f34 13 (by decide)).trans (f17 13 (by decide))) hI12
      have I49 : jI16 σ32 := jI16_fr ((congrFun (f34 16 (by decide)) 0).trans (congrFun (f17 16 (by decide)) 0)) ((congrFun (f34 16 (by decide)) 1).trans (congrFun (f17 16 (by decide)) 1)) ((congrFun (f34 16 (by decide)) 2).trans (congrFun (f17 16 (by decide)) 2)) ((f34 17 (by decide)).trans (f17 17 (by decide))) hI16
      have I50 : jI18 σ32 := jI18_fr ((congrFun (f34 18 (by decide)) 0).trans (congrFun (f17 18 (by decide)) 0)) ((f34 19 (by decide)).trans (f17 19 (by decide))) hI18
      have I51 : jI22 σ32 := jI22_fr ((congrFun (f34 22 (by decide)) 0).trans (congrFun (f17 22 (by decide)) 0)) ((f34 23 (by decide)).trans (f17 23 (by decide))) hI22
      have I52 : jI31 σ32 := jI31_fr ((congrFun (f34 31 (by decide)) 8).trans (congrFun (f17 31 (by decide)) 8)) ((f34 33 (by decide)).trans (f17 33 (by decide))) ((f34 36 (by decide)).trans (f17 36 (by decide))) hI31
      have I53 : jI38 σ32 := jI38_fr ((congrFun (f34 38 (by decide)) 0).trans (congrFun (f17 38 (by decide)) 0)) ((congrFun (f34 38 (by decide)) 1).trans (congrFun (f17 38 (by decide)) 1)) ((f34 39 (by decide)).trans (f17 39 (by decide))) hI38
      have I54 : jI43 σ32 := jI43_fr ((congrFun (f34 43 (by decide)) 8).trans (congrFun (f17 43 (by decide)) 8)) hI43
      have I55 : jI47 σ32 := jI47_fr ((congrFun (f34 47 (by decide)) 0).trans (congrFun (f17 47 (by decide)) 0)) ((f34 48 (by decide)).trans (f17 48 (by decide))) ((f34 49 (by decide)).trans (f17 49 (by decide))) hI47
      have I56 : jI50 σ32 := jI50_fr ((f34 52 (by decide)).trans (f17 52 (by decide))) hI50
      have I57 : jI102 σ32 := jI102_fr (f35 6 (by decide)) (f34 60 (by decide)) (f34 61 (by decide)) I29
      have I58 : jI103 σ32 := jI103_fr ((f35 9 (by decide)).trans (congrFun (f17 55 (by decide)) 9)) hI103
      have I59 : jI104 σ32 := jI104_fr ((f35 10 (by decide)).trans (congrFun (f17 55 (by decide)) 10)) ((f35 12 (by decide)).trans (congrFun (f17 55 (by decide)) 12)) ((f35 13 (by decide)).trans (congrFun (f17 55 (by decide)) 13)) ((f34 62 (by decide)).trans (f17 62 (by decide))) ((f34 67 (by decide)).trans (f17 67 (by decide))) hI104
      have I60 : jI105 σ32 := jI105_fr ((f35 15 (by decide)).trans (congrFun (f17 55 (by decide)) 15)) ((f34 65 (by decide)).trans (f17 65 (by decide))) hI105
      have I61 : jI106 σ32 := jI106_fr ((f35 32 (by decide)).trans (congrFun (f17 55 (by decide)) 32)) ((f34 70 (by decide)).trans (f17 70 (by decide))) ((f34 71 (by decide)).trans (f17 71 (by decide))) ((f34 72 (by decide)).trans (f17 72 (by decide))) hI106
      have I62 : jI107 σ32 := jI107_fr ((f35 12 (by decide)).trans (congrFun (f17 55 (by decide)) 12)) ((f35 47 (by decide)).trans (congrFun (f17 55 (by decide)) 47)) ((f34 80 (by decide)).trans (f17 80 (by decide))) hI107
      have I63 : jI109 σ32 := jI109_fr ((f35 50 (by decide)).trans (congrFun (f17 55 (by decide)) 50)) hI109
      have I64 : jI110 σ32 := jI110_fr ((f34 86 (by decide)).trans (f17 86 (by decide))) ((f34 87 (by decide)).trans (f17 87 (by decide))) hI110
      have I65 : jI111 σ32 := jI111_fr ((f34 79 (by decide)).trans (f17 79 (by decide))) hI111
      have I66 : jI119 σ32 := jI119_fr ((f34 68 (by decide)).trans (f17 68 (by decide))) hI119
      have p67 : jKept σ32 := jKept.fr ((f34 75 (by decide)).trans (f17 75 (by decide))) ((f34 76 (by decide)).trans (f17 76 (by decide))) ((f34 77 (by decide)).trans (f17 77 (by decide))) hs_jKept
      have p68 : jBook σ32 := jBook.fr ((f35 47 (by decide)).trans (congrFun (f17 55 (by decide)) 47)) ((f35 10 (by decide)).trans (congrFun (f17 55 (by decide)) 10)) ((f34 81 (by decide)).trans (f17 81 (by decide))) hs_jBook
      have z69 : (σ32 38 0).toInt = (σ 38 0).toInt := (congrArg Int32.toInt (show σ32 38 0 = (σ 38 0) from ((congrFun (f34 38 (by decide)) 0).trans (congrFun (f17 38 (by decide)) 0))))
      have z70 : (σ32 55 32).toInt = (σ 55 32).toInt := (congrArg Int32.toInt (show σ32 55 32 = (σ 55 32) from ((f35 32 (by decide)).trans (congrFun (f17 55 (by decide)) 32))))
      exact ih x45 σ32 τ _ _ ls (by have h9 := tx45; omega) ⟨I46, I47, I48, I49, I50, I51, I52, I53, I54, I55, I56, I36, I57, I58, I59, I60, I61, I62, I63, I64, I65, I66, p67, p68, (by omega), (show jShP (σ32 51) (σ32 52) (σ32 53) (σ32 86) (σ32 87) (σ32 55 32).toInt by rw [show σ32 51 = σ 51 from ((f34 51 (by decide)).trans (f17 51 (by decide))), show σ32 52 = σ 52 from ((f34 52 (by decide)).trans (f17 52 (by decide))), show σ32 53 = σ 53 from ((f34 53 (by decide)).trans (f17 53 (by decide))), show σ32 86 = σ 86 from ((f34 86 (by decide)).trans (f17 86 (by decide))), show σ32 87 = σ 87 from ((f34 87 (by decide)).trans (f17 87 (by decide)))]; exact (hr0.up (by omega) (by omega))), (show jKd (σ32 39) (σ32 70) (σ32 55 32).toInt by rw [show σ32 39 = σ 39 from ((f34 39 (by decide)).trans (f17 39 (by decide))), show σ32 70 = σ 70 from ((f34 70 (by decide)).trans (f17 70 (by decide))), show (σ32 55 32).toInt = (σ 55 32).toInt from by omega]; exact hr1)⟩ hP hS (lv_sub hl [0, 1, 2, 3] rfl)
    · obtain ⟨q72, k71⟩ := h39
      refine lv_pop hx hb dL_law_278 rfl ?_
      refine lv_goto (tgt := 1357) hx hb dL_law_279 (by decide) ?_
      obtain ⟨x73, ex73⟩ : ∃ y : Int32, y = x0 + 6 := ⟨_, rfl⟩
      have tx73 : x73.toInt = x0.toInt + 6 := (jadd ex73 rfl jz_6 (by omega) (by omega)).trans (by omega)
      refine lv_iinc (v := x73) (lv' := [(3, .int x73), (2, .ref (ad 55)), (1, .ref (ad 0)), (0, .ref b)]) hx hb dL_law_1357 hl (k := 0) rfl (by rw [ex73]; rfl) (by decide) rfl (fun ls hl => ?_)
      refine lv_goto (tgt := 18) hx hb dL_law_1360 (by decide) ?_
      have I74 : jI2 σ32 := jI2_fr (congrFun (f34 2 (by decide)) 0) (congrFun (f34 2 (by decide)) 1) (congrFun (f34 2 (by decide)) 2) (congrFun (f34 2 (by decide)) 3) (f34 6 (by decide)) I19
      have I75 : jI9 σ32 := jI9_fr ((congrFun (f34 9 (by decide)) 0).trans (congrFun (f17 9 (by decide)) 0)) ((f34 10 (by decide)).trans (f17 10 (by decide))) ((f34 11 (by decide)).trans (f17 11 (by decide))) hI9
      have I76 : jI12 σ32 := jI12_fr ((congrFun (f34 12 (by decide)) 0).trans (congrFun (f17 12 (by decide)) 0)) ((f34 13 (by decide)).trans (f17 13 (by decide))) hI12
      have I77 : jI16 σ32 := jI16_fr ((congrFun (f34 16 (by decide)) 0).trans (congrFun (f17 16 (by decide)) 0)) ((congrFun (f34 16 (by decide)) 1).trans (congrFun (f17 16 (by decide)) 1)) ((congrFun (f34 16 (by decide)) 2).trans (congrFun (f17 16 (by decide)) 2)) ((f34 17 (by decide)).trans (f17 17 (by decide))) hI16
      have I78 : jI18 σ32 := jI18_fr ((congrFun (f34 18 (by decide)) 0).trans (congrFun (f17 18 (by decide)) 0)) ((f34 19 (by decide)).trans (f17 19 (by decide))) hI18
      have I79 : jI22 σ32 := jI22_fr ((congrFun (f34 22 (by decide)) 0).trans (congrFun (f17 22 (by decide)) 0)) ((f34 23 (by decide)).trans (f17 23 (by decide))) hI22
      have I80 : jI31 σ32 := jI31_fr ((congrFun (f34 31 (by decide)) 8).trans (congrFun (f17 31 (by decide)) 8)) ((f34 33 (by decide)).trans (f17 33 (by decide))) ((f34 36 (by decide)).trans (f17 36 (by decide))) hI31
      have I81 : jI38 σ32 := jI38_fr ((congrFun (f34 38 (by decide)) 0).trans (congrFun (f17 38 (by decide)) 0)) ((congrFun (f34 38 (by decide)) 1).trans (congrFun (f17 38 (by decide)) 1)) ((f34 39 (by decide)).trans (f17 39 (by decide))) hI38
      have I82 : jI43 σ32 := jI43_fr ((congrFun (f34 43 (by decide)) 8).trans (congrFun (f17 43 (by decide)) 8)) hI43
      have I83 : jI47 σ32 := jI47_fr ((congrFun (f34 47 (by decide)) 0).trans (congrFun (f17 47 (by decide)) 0)) ((f34 48 (by decide)).trans (f17 48 (by decide))) ((f34 49 (by decide)).trans (f17 49 (by decide))) hI47
      have I84 : jI50 σ32 := jI50_fr ((f34 52 (by decide)).trans (f17 52 (by decide))) hI50
      have I85 : jI102 σ32 := jI102_fr (f35 6 (by decide)) (f34 60 (by decide)) (f34 61 (by decide)) I29
      have I86 : jI103 σ32 := jI103_fr ((f35 9 (by decide)).trans (congrFun (f17 55 (by decide)) 9)) hI103
      have I87 : jI104 σ32 := jI104_fr ((f35 10 (by decide)).trans (congrFun (f17 55 (by decide)) 10)) ((f35 12 (by decide)).trans (congrFun (f17 55 (by decide)) 12)) ((f35 13 (by decide)).trans (congrFun (f17 55 (by decide)) 13)) ((f34 62 (by decide)).trans (f17 62 (by decide))) ((f34 67 (by decide)).trans (f17 67 (by decide))) hI104
      have I88 : jI105 σ32 := jI105_fr ((f35 15 (by decide)).trans (congrFun (f17 55 (by decide)) 15)) ((f34 65 (by decide)).trans (f17 65 (by decide))) hI105
      have I89 : jI106 σ32 := jI106_fr ((f35 32 (by decide)).trans (congrFun (f17 55 (by decide)) 32)) ((f34 70 (by decide)).trans (f17 70 (by decide))) ((f34 71 (by decide)).trans (f17 71 (by decide))) ((f34 72 (by decide)).trans (f17 72 (by decide))) hI106
      have I90 : jI107 σ32 := jI107_fr ((f35 12 (by decide)).trans (congrFun (f17 55 (by decide)) 12)) ((f35 47 (by decide)).trans (congrFun (f17 55 (by decide)) 47)) ((f34 80 (by decide)).trans (f17 80 (by decide))) hI107
      have I91 : jI109 σ32 := jI109_fr ((f35 50 (by decide)).trans (congrFun (f17 55 (by decide)) 50)) hI109
      have I92 : jI110 σ32 := jI110_fr ((f34 86 (by decide)).trans (f17 86 (by decide))) ((f34 87 (by decide)).trans (f17 87 (by decide))) hI110
      have I93 : jI111 σ32 := jI111_fr ((f34 79 (by decide)).trans (f17 79 (by decide))) hI111
      have I94 : jI119 σ32 := jI119_fr ((f34 68 (by decide)).trans (f17 68 (by decide))) hI119
      have p95 : jKept σ32 := jKept.fr ((f34 75 (by decide)).trans (f17 75 (by decide))) ((f34 76 (by decide)).trans (f17 76 (by decide))) ((f34 77 (by decide)).trans (f17 77 (by decide))) hs_jKept
      have p96 : jBook σ32 := jBook.fr ((f35 47 (by decide)).trans (congrFun (f17 55 (by decide)) 47)) ((f35 10 (by decide)).trans (congrFun (f17 55 (by decide)) 10)) ((f34 81 (by decide)).trans (f17 81 (by decide))) hs_jBook
      have z97 : (σ32 38 0).toInt = (σ 38 0).toInt := (congrArg Int32.toInt (show σ32 38 0 = (σ 38 0) from ((congrFun (f34 38 (by decide)) 0).trans (congrFun (f17 38 (by decide)) 0))))
      have z98 : (σ32 55 32).toInt = (σ 55 32).toInt := (congrArg Int32.toInt (show σ32 55 32 = (σ 55 32) from ((f35 32 (by decide)).trans (congrFun (f17 55 (by decide)) 32))))
      exact ih x73 σ32 τ _ _ ls (by have h9 := tx73; omega) ⟨I74, I75, I76, I77, I78, I79, I80, I81, I82, I83, I84, I36, I85, I86, I87, I88, I89, I90, I91, I92, I93, I94, p95, p96, (by omega), (show jShP (σ32 51) (σ32 52) (σ32 53) (σ32 86) (σ32 87) (σ32 55 32).toInt by rw [show σ32 51 = σ 51 from ((f34 51 (by decide)).trans (f17 51 (by decide))), show σ32 52 = σ 52 from ((f34 52 (by decide)).trans (f17 52 (by decide))), show σ32 53 = σ 53 from ((f34 53 (by decide)).trans (f17 53 (by decide))), show σ32 86 = σ 86 from ((f34 86 (by decide)).trans (f17 86 (by decide))), show σ32 87 = σ 87 from ((f34 87 (by decide)).trans (f17 87 (by decide)))]; exact (hr0.up (by omega) (by omega))), (show jKd (σ32 39) (σ32 70) (σ32 55 32).toInt by rw [show σ32 39 = σ 39 from ((f34 39 (by decide)).trans (f17 39 (by decide))), show σ32 70 = σ 70 from ((f34 70 (by decide)).trans (f17 70 (by decide))), show (σ32 55 32).toInt = (σ 55 32).toInt from by omega]; exact hr1)⟩ hP hS (lv_sub hl [0, 1, 2, 3] rfl)
  · obtain ⟨q100, k99⟩ := h22
    refine lv_pop hx hb dL_law_258 rfl ?_
    refine lv_aload_n hx hb dL_law_259 rfl (lv_at hl 1 rfl) ?_
    refine lv_aload_n hx hb dL_law_260 rfl (lv_at hl 3 rfl) ?_
    refine lv_iload_n hx hb dL_law_261 rfl (lv_at hl 0 rfl) ?_
    refine lv_iconst (v := 1) hx hb dL_law_262 (by decide) ?_
    refine lv_iadd hx hb dL_law_263 ?_
    refine jtopr ex9.symm ?_
    refine va_sld hx hb hX hbl hbA hS (jin tx9 (by omega) (by omega)) dL_law_264 ?_
    refine lv_aload_n hx hb dL_law_265 rfl (lv_at hl 3 rfl) ?_
    refine lv_iload_n hx hb dL_law_266 rfl (lv_at hl 0 rfl) ?_
    refine lv_iconst (v := 2) hx hb dL_law_267 (by decide) ?_
    refine lv_iadd hx hb dL_law_268 ?_
    refine jtopr ex11.symm ?_
    refine va_sld hx hb hX hbl hbA hS (jin tx11 (by omega) (by omega)) dL_law_269 ?_
    refine lv_aload_n hx hb dL_law_270 rfl (lv_at hl 3 rfl) ?_
    refine lv_iload_n hx hb dL_law_271 rfl (lv_at hl 0 rfl) ?_
    refine lv_iconst (v := 3) hx hb dL_law_272 (by decide) ?_
    refine lv_iadd hx hb dL_law_273 ?_
    refine jtopr ex13.symm ?_
    refine va_sld hx hb hX hbl hbA hS (jin tx13 (by omega) (by omega)) dL_law_274 ?_
    have I101 : jI101 σ15 := jI101_fr (congrFun (f17 55 (by decide)) 4) (congrFun (f17 55 (by decide)) 5) (f17 56 (by decide)) (f17 57 (by decide)) (f17 58 (by decide)) (f17 59 (by decide)) hI101
    have I102 : jI102 σ15 := jI102_fr (congrFun (f17 55 (by decide)) 6) (f17 60 (by decide)) (f17 61 (by decide)) hI102
    have z103 : (σ15 55 5).toInt = (σ 55 5).toInt := (congrArg Int32.toInt (show σ15 55 5 = (σ 55 5) from (congrFun (f17 55 (by decide)) 5)))
    have z104 : (σ15 55 4).toInt = (σ 55 4).toInt := (congrArg Int32.toInt (show σ15 55 4 = (σ 55 4) from (congrFun (f17 55 (by decide)) 4)))
    refine jcallV (As := [.int (xs x9.toNatClampNeg), .int (xs x11.toNatClampNeg), .int (xs x13.toNatClampNeg)]) (rest := []) ⟨hx, hb, hml, hown, hts⟩ hK hP hA hS hZ (c_X12_edge l D cI cL ad zz hJ σ15 τ (xs x9.toNatClampNeg) ((xs x9.toNatClampNeg).toInt) rfl (xs x11.toNatClampNeg) ((xs x11.toNatClampNeg).toInt) rfl (xs x13.toNatClampNeg) ((xs x13.toNatClampNeg).toInt) rfl I101 I102) cw_RL_21 (jc_55 cI cL ad σ15 τ) rfl ⟨Nat.le_of_ble_eq_true rfl, Nat.le_of_ble_eq_true rfl⟩ rfl rfl rfl hl.1 rfl (Nat.le_of_ble_eq_true rfl) dL_law_275 ⟨Nat.le_of_ble_eq_true rfl, Nat.le_of_ble_eq_true rfl⟩ (fun r106 σ105 τ105 H locs h105 hP hS => ?_)
    obtain ⟨rfl, f107, f108, I109, h105⟩ := h105
    rcases h105 with h111 | h112
    · obtain ⟨q117, k113, k114, k115, k116⟩ := h111
      have q117 := q117.symm
      subst q117
      refine lv_pop hx hb dL_law_278 rfl ?_
      refine lv_goto (tgt := 1357) hx hb dL_law_279 (by decide) ?_
      obtain ⟨x118, ex118⟩ : ∃ y : Int32, y = x0 + 6 := ⟨_, rfl⟩
      have tx118 : x118.toInt = x0.toInt + 6 := (jadd ex118 rfl jz_6 (by omega) (by omega)).trans (by omega)
      refine lv_iinc (v := x118) (lv' := [(3, .int x118), (2, .ref (ad 55)), (1, .ref (ad 0)), (0, .ref b)]) hx hb dL_law_1357 hl (k := 0) rfl (by rw [ex118]; rfl) (by decide) rfl (fun ls hl => ?_)
      refine lv_goto (tgt := 18) hx hb dL_law_1360 (by decide) ?_
      have I119 : jI2 σ105 := jI2_fr (congrFun (f107 2 (by decide)) 0) (congrFun (f107 2 (by decide)) 1) (congrFun (f107 2 (by decide)) 2) (congrFun (f107 2 (by decide)) 3) (f107 6 (by decide)) I19
      have I120 : jI9 σ105 := jI9_fr ((congrFun (f107 9 (by decide)) 0).trans (congrFun (f17 9 (by decide)) 0)) ((f107 10 (by decide)).trans (f17 10 (by decide))) ((f107 11 (by decide)).trans (f17 11 (by decide))) hI9
      have I121 : jI12 σ105 := jI12_fr ((congrFun (f107 12 (by decide)) 0).trans (congrFun (f17 12 (by decide)) 0)) ((f107 13 (by decide)).trans (f17 13 (by decide))) hI12
      have I122 : jI16 σ105 := jI16_fr ((congrFun (f107 16 (by decide)) 0).trans (congrFun (f17 16 (by decide)) 0)) ((congrFun (f107 16 (by decide)) 1).trans (congrFun (f17 16 (by decide)) 1)) ((congrFun (f107 16 (by decide)) 2).trans (congrFun (f17 16 (by decide)) 2)) ((f107 17 (by decide)).trans (f17 17 (by decide))) hI16
      have I123 : jI18 σ105 := jI18_fr ((congrFun (f107 18 (by decide)) 0).trans (congrFun (f17 18 (by decide)) 0)) ((f107 19 (by decide)).trans (f17 19 (by decide))) hI18
      have I124 : jI22 σ105 := jI22_fr ((congrFun (f107 22 (by decide)) 0).trans (congrFun (f17 22 (by decide)) 0)) ((f107 23 (by decide)).trans (f17 23 (by decide))) hI22
      have I125 : jI31 σ105 := jI31_fr ((congrFun (f107 31 (by decide)) 8).trans (congrFun (f17 31 (by decide)) 8)) ((f107 33 (by decide)).trans (f17 33 (by decide))) ((f107 36 (by decide)).trans (f17 36 (by decide))) hI31
      have I126 : jI38 σ105 := jI38_fr ((congrFun (f107 38 (by decide)) 0).trans (congrFun (f17 38 (by decide)) 0)) ((congrFun (f107 38 (by decide)) 1).trans (congrFun (f17 38 (by decide)) 1)) ((f107 39 (by decide)).trans (f17 39 (by decide))) hI38
      have I127 : jI43 σ105 := jI43_fr ((congrFun (f107 43 (by decide)) 8).trans (congrFun (f17 43 (by decide)) 8)) hI43
      have I128 : jI47 σ105 := jI47_fr ((congrFun (f107 47 (by decide)) 0).trans (congrFun (f17 47 (by decide)) 0)) ((f107 48 (by decide)).trans (f17 48 (by decide))) ((f107 49 (by decide)).trans (f17 49 (by decide))) hI47
      have I129 : jI50 σ105 := jI50_fr ((f107 52 (by decide)).trans (f17 52 (by decide))) hI50
      have I130 : jI102 σ105 := jI102_fr (f108 6 (by decide)) (f107 60 (by decide)) (f107 61 (by decide)) I102
      have I131 : jI103 σ105 := jI103_fr ((f108 9 (by decide)).trans (congrFun (f17 55 (by decide)) 9)) hI103
      have I132 : jI104 σ105 := jI104_fr ((f108 10 (by decide)).trans (congrFun (f17 55 (by decide)) 10)) ((f108 12 (by decide)).trans (congrFun (f17 55 (by decide)) 12)) ((f108 13 (by decide)).trans (congrFun (f17 55 (by decide)) 13)) ((f107 62 (by decide)).trans (f17 62 (by decide))) ((f107 67 (by decide)).trans (f17 67 (by decide))) hI104
      have I133 : jI105 σ105 := jI105_fr ((f108 15 (by decide)).trans (congrFun (f17 55 (by decide)) 15)) ((f107 65 (by decide)).trans (f17 65 (by decide))) hI105
      have I134 : jI106 σ105 := jI106_fr ((f108 32 (by decide)).trans (congrFun (f17 55 (by decide)) 32)) ((f107 70 (by decide)).trans (f17 70 (by decide))) ((f107 71 (by decide)).trans (f17 71 (by decide))) ((f107 72 (by decide)).trans (f17 72 (by decide))) hI106
      have I135 : jI107 σ105 := jI107_fr ((f108 12 (by decide)).trans (congrFun (f17 55 (by decide)) 12)) ((f108 47 (by decide)).trans (congrFun (f17 55 (by decide)) 47)) ((f107 80 (by decide)).trans (f17 80 (by decide))) hI107
      have I136 : jI109 σ105 := jI109_fr ((f108 50 (by decide)).trans (congrFun (f17 55 (by decide)) 50)) hI109
      have I137 : jI110 σ105 := jI110_fr ((f107 86 (by decide)).trans (f17 86 (by decide))) ((f107 87 (by decide)).trans (f17 87 (by decide))) hI110
      have I138 : jI111 σ105 := jI111_fr ((f107 79 (by decide)).trans (f17 79 (by decide))) hI111
      have I139 : jI119 σ105 := jI119_fr ((f107 68 (by decide)).trans (f17 68 (by decide))) hI119
      have p140 : jKept σ105 := jKept.fr ((f107 75 (by decide)).trans (f17 75 (by decide))) ((f107 76 (by decide)).trans (f17 76 (by decide))) ((f107 77 (by decide)).trans (f17 77 (by decide))) hs_jKept
      have p141 : jBook σ105 := jBook.fr ((f108 47 (by decide)).trans (congrFun (f17 55 (by decide)) 47)) ((f108 10 (by decide)).trans (congrFun (f17 55 (by decide)) 10)) ((f107 81 (by decide)).trans (f17 81 (by decide))) hs_jBook
      have z142 : (σ105 38 0).toInt = (σ 38 0).toInt := (congrArg Int32.toInt (show σ105 38 0 = (σ 38 0) from ((congrFun (f107 38 (by decide)) 0).trans (congrFun (f17 38 (by decide)) 0))))
      have z143 : (σ105 55 32).toInt = (σ 55 32).toInt := (congrArg Int32.toInt (show σ105 55 32 = (σ 55 32) from ((f108 32 (by decide)).trans (congrFun (f17 55 (by decide)) 32))))
      exact ih x118 σ105 τ _ _ ls (by have h9 := tx118; omega) ⟨I119, I120, I121, I122, I123, I124, I125, I126, I127, I128, I129, I109, I130, I131, I132, I133, I134, I135, I136, I137, I138, I139, p140, p141, (by omega), (show jShP (σ105 51) (σ105 52) (σ105 53) (σ105 86) (σ105 87) (σ105 55 32).toInt by rw [show σ105 51 = σ 51 from ((f107 51 (by decide)).trans (f17 51 (by decide))), show σ105 52 = σ 52 from ((f107 52 (by decide)).trans (f17 52 (by decide))), show σ105 53 = σ 53 from ((f107 53 (by decide)).trans (f17 53 (by decide))), show σ105 86 = σ 86 from ((f107 86 (by decide)).trans (f17 86 (by decide))), show σ105 87 = σ 87 from ((f107 87 (by decide)).trans (f17 87 (by decide)))]; exact (hr0.up (by omega) (by omega))), (show jKd (σ105 39) (σ105 70) (σ105 55 32).toInt by rw [show σ105 39 = σ 39 from ((f107 39 (by decide)).trans (f17 39 (by decide))), show σ105 70 = σ 70 from ((f107 70 (by decide)).trans (f17 70 (by decide))), show (σ105 55 32).toInt = (σ 55 32).toInt from by omega]; exact hr1)⟩ hP hS (lv_sub hl [0, 1, 2, 3] rfl)
    · obtain ⟨q145, k144⟩ := h112
      refine lv_pop hx hb dL_law_278 rfl ?_
      refine lv_goto (tgt := 1357) hx hb dL_law_279 (by decide) ?_
      obtain ⟨x146, ex146⟩ : ∃ y : Int32, y = x0 + 6 := ⟨_, rfl⟩
      have tx146 : x146.toInt = x0.toInt + 6 := (jadd ex146 rfl jz_6 (by omega) (by omega)).trans (by omega)
      refine lv_iinc (v := x146) (lv' := [(3, .int x146), (2, .ref (ad 55)), (1, .ref (ad 0)), (0, .ref b)]) hx hb dL_law_1357 hl (k := 0) rfl (by rw [ex146]; rfl) (by decide) rfl (fun ls hl => ?_)
      refine lv_goto (tgt := 18) hx hb dL_law_1360 (by decide) ?_
      have I147 : jI2 σ105 := jI2_fr (congrFun (f107 2 (by decide)) 0) (congrFun (f107 2 (by decide)) 1) (congrFun (f107 2 (by decide)) 2) (congrFun (f107 2 (by decide)) 3) (f107 6 (by decide)) I19
      have I148 : jI9 σ105 := jI9_fr ((congrFun (f107 9 (by decide)) 0).trans (congrFun (f17 9 (by decide)) 0)) ((f107 10 (by decide)).trans (f17 10 (by decide))) ((f107 11 (by decide)).trans (f17 11 (by decide))) hI9
      have I149 : jI12 σ105 := jI12_fr ((congrFun (f107 12 (by decide)) 0).trans (congrFun (f17 12 (by decide)) 0)) ((f107 13 (by decide)).trans (f17 13 (by decide))) hI12
      have I150 : jI16 σ105 := jI16_fr ((congrFun (f107 16 (by decide)) 0).trans (congrFun (f17 16 (by decide)) 0)) ((congrFun (f107 16 (by decide)) 1).trans (congrFun (f17 16 (by decide)) 1)) ((congrFun (f107 16 (by decide)) 2).trans (congrFun (f17 16 (by decide)) 2)) ((f107 17 (by decide)).trans (f17 17 (by decide))) hI16
      have I151 : jI18 σ105 := jI18_fr ((congrFun (f107 18 (by decide)) 0).trans (congrFun (f17 18 (by decide)) 0)) ((f107 19 (by decide)).trans (f17 19 (by decide))) hI18
      have I152 : jI22 σ105 := jI22_fr ((congrFun (f107 22 (by decide)) 0).trans (congrFun (f17 22 (by decide)) 0)) ((f107 23 (by decide)).trans (f17 23 (by decide))) hI22
      have I153 : jI31 σ105 := jI31_fr ((congrFun (f107 31 (by decide)) 8).trans (congrFun (f17 31 (by decide)) 8)) ((f107 33 (by decide)).trans (f17 33 (by decide))) ((f107 36 (by decide)).trans (f17 36 (by decide))) hI31
      have I154 : jI38 σ105 := jI38_fr ((congrFun (f107 38 (by decide)) 0).trans (congrFun (f17 38 (by decide)) 0)) ((congrFun (f107 38 (by decide)) 1).trans (congrFun (f17 38 (by decide)) 1)) ((f107 39 (by decide)).trans (f17 39 (by decide))) hI38
      have I155 : jI43 σ105 := jI43_fr ((congrFun (f107 43 (by decide)) 8).trans (congrFun (f17 43 (by decide)) 8)) hI43
      have I156 : jI47 σ105 := jI47_fr ((congrFun (f107 47 (by decide)) 0).trans (congrFun (f17 47 (by decide)) 0)) ((f107 48 (by decide)).trans (f17 48 (by decide))) ((f107 49 (by decide)).trans (f17 49 (by decide))) hI47
      have I157 : jI50 σ105 := jI50_fr ((f107 52 (by decide)).trans (f17 52 (by decide))) hI50
      have I158 : jI102 σ105 := jI102_fr (f108 6 (by decide)) (f107 60 (by decide)) (f107 61 (by decide)) I102
      have I159 : jI103 σ105 := jI103_fr ((f108 9 (by decide)).trans (congrFun (f17 55 (by decide)) 9)) hI103
      have I160 : jI104 σ105 := jI104_fr ((f108 10 (by decide)).trans (congrFun (f17 55 (by decide)) 10)) ((f108 12 (by decide)).trans (congrFun (f17 55 (by decide)) 12)) ((f108 13 (by decide)).trans (congrFun (f17 55 (by decide)) 13)) ((f107 62 (by decide)).trans (f17 62 (by decide))) ((f107 67 (by decide)).trans (f17 67 (by decide))) hI104
      have I161 : jI105 σ105 := jI105_fr ((f108 15 (by decide)).trans (congrFun (f17 55 (by decide)) 15)) ((f107 65 (by decide)).trans (f17 65 (by decide))) hI105
      have I162 : jI106 σ105 := jI106_fr ((f108 32 (by decide)).trans (congrFun (f17 55 (by decide)) 32)) ((f107 70 (by decide)).trans (f17 70 (by decide))) ((f107 71 (by decide)).trans (f17 71 (by decide))) ((f107 72 (by decide)).trans (f17 72 (by decide))) hI106
      have I163 : jI107 σ105 := jI107_fr ((f108 12 (by decide)).trans (congrFun (f17 55 (by decide)) 12)) ((f108 47 (by decide)).trans (congrFun (f17 55 (by decide)) 47)) ((f107 80 (by decide)).trans (f17 80 (by decide))) hI107
      have I164 : jI109 σ105 := jI109_fr ((f108 50 (by decide)).trans (congrFun (f17 55 (by decide)) 50)) hI109
      have I165 : jI110 σ105 := jI110_fr ((f107 86 (by decide)).trans (f17 86 (by decide))) ((f107 87 (by decide)).trans (f17 87 (by decide))) hI110
      have I166 : jI111 σ105 := jI111_fr ((f107 79 (by decide)).trans (f17 79 (by decide))) hI111
      have I167 : jI119 σ105 := jI119_fr ((f107 68 (by decide)).trans (f17 68 (by decide))) hI119
      have p168 : jKept σ105 := jKept.fr ((f107 75 (by decide)).trans (f17 75 (by decide))) ((f107 76 (by decide)).trans (f17 76 (by decide))) ((f107 77 (by decide)).trans (f17 77 (by decide))) hs_jKept
      have p169 : jBook σ105 := jBook.fr ((f108 47 (by decide)).trans (congrFun (f17 55 (by decide)) 47)) ((f108 10 (by decide)).trans (congrFun (f17 55 (by decide)) 10)) ((f107 81 (by decide)).trans (f17 81 (by decide))) hs_jBook
      have z170 : (σ105 38 0).toInt = (σ 38 0).toInt := (congrArg Int32.toInt (show σ105 38 0 = (σ 38 0) from ((congrFun (f107 38 (by decide)) 0).trans (congrFun (f17 38 (by decide)) 0))))
      have z171 : (σ105 55 32).toInt = (σ 55 32).toInt := (congrArg Int32.toInt (show σ105 55 32 = (σ 55 32) from ((f108 32 (by decide)).trans (congrFun (f17 55 (by decide)) 32))))
      exact ih x146 σ105 τ _ _ ls (by have h9 := tx146; omega) ⟨I147, I148, I149, I150, I151, I152, I153, I154, I155, I156, I157, I109, I158, I159, I160, I161, I162, I163, I164, I165, I166, I167, p168, p169, (by omega), (show jShP (σ105 51) (σ105 52) (σ105 53) (σ105 86) (σ105 87) (σ105 55 32).toInt by rw [show σ105 51 = σ 51 from ((f107 51 (by decide)).trans (f17 51 (by decide))), show σ105 52 = σ 52 from ((f107 52 (by decide)).trans (f17 52 (by decide))), show σ105 53 = σ 53 from ((f107 53 (by decide)).trans (f17 53 (by decide))), show σ105 86 = σ 86 from ((f107 86 (by decide)).trans (f17 86 (by decide))), show σ105 87 = σ 87 from ((f107 87 (by decide)).trans (f17 87 (by decide)))]; exact (hr0.up (by omega) (by omega))), (show jKd (σ105 39) (σ105 70) (σ105 55 32).toInt by rw [show σ105 39 = σ 39 from ((f107 39 (by decide)).trans (f17 39 (by decide))), show σ105 70 = σ 70 from ((f107 70 (by decide)).trans (f17 70 (by decide))), show (σ105 55 32).toInt = (σ 55 32).toInt from by omega]; exact hr1)⟩ hP hS (lv_sub hl [0, 1, 2, 3] rfl)
set_option maxHeartbeats 4000000 in
set_option maxRecDepth 100000 in
theorem law_case_2 {p : Program} {e : Env} {s : State} {m : MethodId} {below : List Frame} {meth : Method} {c : Code} (l : Launch) {b L : Nat} {xs : Nat → Int32} {D : va_G} {cI cL : ClassId} {ad zz : Nat → Nat} (C0 : lw_At p s m meth c b L xs) (hJ : jD ad) (hA : ∀ q, jA ad q → s.heap.size ≤ q) (hK : jK D cI cL s) (hZ : jZ zz (fun q : Nat => s.heap.size ≤ q) s s.heap) {x0 : Int32} (hx0 : 0 ≤ x0.toInt) (hxL : x0.toInt + 6 ≤ (L : Int)) (hL : L ≤ 384) {σ : Nat → Nat → Int32} {τ : Nat → Nat → Int64} {H : Heap} {locs : List Loc} (hS : va_S (fun q : Nat => s.heap.size ≤ q) s.heap H locs) {ls : Array Slot} (hAll : jAll σ τ) (hP : jH D cI cL ad σ τ H) (hl : lv_has ls 4 [(3, .int x0), (2, .ref (ad 55)), (1, .ref (ad 0)), (0, .ref b)]) (ih : ∀ (x1 : Int32) (σ : Nat → Nat → Int32) (τ : Nat → Nat → Int64) (H : Heap) (locs : List Loc) (ls : Array Slot), x1.toInt = x0.toInt + 6 → jAll σ τ → jH D cI cL ad σ τ H → va_S (fun q : Nat => s.heap.size ≤ q) s.heap H locs → lv_has ls 4 [(3, .int x1), (2, .ref (ad 55)), (1, .ref (ad 0)), (0, .ref b)] → W p l e room_1 s m #[Value.ref b] below meth c H locs 90 348600 (lw_Z below #[Value.ref b] s) (F0 m 18 ls [])) : W p l e room_1 s m #[Value.ref b] below meth c H locs 90 348600 (lw_Z below #[Value.ref b] s) (F0 m 282 ls []) := by
  obtain ⟨hx, hb, hr, hml, hown, hts0, hX, hbl, hlocks, hgv⟩ := C0
  have hts : ∀ w ∈ wsL_law, w.before #[Value.ref b] s = true := fun w h => hts0 w (wsL_law_in w h)
  have hbA : ¬ (fun q : Nat => s.heap.size ≤ q) b := Nat.not_le.mpr hbl
  have hown : s.vm.findClass RL = some m.cls := hown
  obtain ⟨hI2, hI9, hI12, hI16, hI18, hI22, hI31, hI38, hI43, hI47, hI50, hI101, hI102, hI103, hI104, hI105, hI106, hI107, hI109, hI110, hI111, hI119, hs_jKept, hs_jBook, ht0, hr0, hr1⟩ := hAll
  have hL9 : (L : Int) ≤ 384 := by omega
  obtain ⟨i1, i2, w3⟩ : (0 ≤ (σ 38 0).toInt ∧ (σ 38 0).toInt ≤ 20) ∧ (0 ≤ (σ 38 1).toInt ∧ (σ 38 1).toInt ≤ 1000) ∧ (∀ k : Nat, k < 20 → 0 ≤ (σ 39 k).toInt ∧ (σ 39 k).toInt ≤ 6) := id hI38
  obtain ⟨i4, w5, w6, w7⟩ : (0 ≤ (σ 55 32).toInt ∧ (σ 55 32).toInt ≤ 20) ∧ (∀ k : Nat, k < 20 → 0 ≤ (σ 70 k).toInt ∧ (σ 70 k).toInt ≤ 6) ∧ (∀ k : Nat, k < 20 → 0 ≤ (σ 71 k).toInt ∧ (σ 71 k).toInt ≤ 8) ∧ (∀ k : Nat, k < 160 → 0 ≤ (σ 72 k).toInt ∧ (σ 72 k).toInt ≤ 3) := id hI106
  refine lv_aload_n hx hb dL_law_282 rfl (lv_at hl 2 rfl) ?_
  refine lv_aload_n hx hb dL_law_283 rfl (lv_at hl 3 rfl) ?_
  refine lv_iload_n hx hb dL_law_284 rfl (lv_at hl 0 rfl) ?_
  refine lv_iconst (v := 1) hx hb dL_law_285 (by decide) ?_
  have g8 := jrg (rfl : x0.toInt = x0.toInt)
  refine lv_iadd hx hb dL_law_286 ?_
  refine lv_topi (fun x9 ex9 => ?_)
  have tx9 : x9.toInt = x0.toInt + 1 := (jadd ex9 rfl jz_1 (by omega) (by omega)).trans (by omega)
  refine va_sld hx hb hX hbl hbA hS (jin tx9 (by omega) (by omega)) dL_law_287 ?_
  have g10 := jrg (rfl : (xs x9.toNatClampNeg).toInt = (xs x9.toNatClampNeg).toInt)
  refine lv_aload_n hx hb dL_law_288 rfl (lv_at hl 3 rfl) ?_
  refine lv_iload_n hx hb dL_law_289 rfl (lv_at hl 0 rfl) ?_
  refine lv_iconst (v := 2) hx hb dL_law_290 (by decide) ?_
  refine lv_iadd hx hb dL_law_291 ?_
  refine lv_topi (fun x11 ex11 => ?_)
  have tx11 : x11.toInt = x0.toInt + 2 := (jadd ex11 rfl jz_2 (by omega) (by omega)).trans (by omega)
  refine va_sld hx hb hX hbl hbA hS (jin tx11 (by omega) (by omega)) dL_law_292 ?_
  have g12 := jrg (rfl : (xs x11.toNatClampNeg).toInt = (xs x11.toNatClampNeg).toInt)
  refine lv_aload_n hx hb dL_law_293 rfl (lv_at hl 3 rfl) ?_
  refine lv_iload_n hx hb dL_law_294 rfl (lv_at hl 0 rfl) ?_
  refine lv_iconst (v := 3) hx hb dL_law_295 (by decide) ?_
  refine lv_iadd hx hb dL_law_296 ?_
  refine lv_topi (fun x13 ex13 => ?_)
  have tx13 : x13.toInt = x0.toInt + 3 := (jadd ex13 rfl jz_3 (by omega) (by omega)).trans (by omega)
  refine va_sld hx hb hX hbl hbA hS (jin tx13 (by omega) (by omega)) dL_law_297 ?_
  have g14 := jrg (rfl : (xs x13.toNatClampNeg).toInt = (xs x13.toNatClampNeg).toInt)
  refine jcallV (As := [.int (xs x9.toNatClampNeg), .int (xs x11.toNatClampNeg), .int (xs x13.toNatClampNeg)]) (rest := []) ⟨hx, hb, hml, hown, hts⟩ hK hP hA hS hZ (c_X11_field l D cI cL ad zz hJ σ τ (xs x9.toNatClampNeg) ((xs x9.toNatClampNeg).toInt) rfl (xs x11.toNatClampNeg) ((xs x11.toNatClampNeg).toInt) rfl (xs x13.toNatClampNeg) ((xs x13.toNatClampNeg).toInt) rfl hI2) cw_RL_22 (jc_0 cI cL ad σ τ) rfl ⟨Nat.le_of_ble_eq_true rfl, Nat.le_of_ble_eq_true rfl⟩ rfl rfl rfl hl.1 rfl (Nat.le_of_ble_eq_true rfl) dL_law_298 ⟨Nat.le_of_ble_eq_true rfl, Nat.le_of_ble_eq_true rfl⟩ (fun r16 σ15 τ15 H locs h15 hP hS => ?_)
  obtain ⟨rfl, f17, f18, I19, h15⟩ := h15
  rcases h15 with h21 | h22
  · obtain ⟨q27, k23, k24, k25, k26⟩ := h21
    have q27 := q27.symm
    subst q27
    refine lv_pop hx hb dL_law_301 rfl ?_
    refine lv_aload_n hx hb dL_law_302 rfl (lv_at hl 1 rfl) ?_
    refine lv_aload_n hx hb dL_law_303 rfl (lv_at hl 3 rfl) ?_
    refine lv_iload_n hx hb dL_law_304 rfl (lv_at hl 0 rfl) ?_
    refine lv_iconst (v := 1) hx hb dL_law_305 (by decide) ?_
    refine lv_iadd hx hb dL_law_306 ?_
    refine jtopr ex9.symm ?_
    refine va_sld hx hb hX hbl hbA hS (jin tx9 (by omega) (by omega)) dL_law_307 ?_
    refine lv_aload_n hx hb dL_law_308 rfl (lv_at hl 3 rfl) ?_
    refine lv_iload_n hx hb dL_law_309 rfl (lv_at hl 0 rfl) ?_
    refine lv_iconst (v := 2) hx hb dL_law_310 (by decide) ?_
    refine lv_iadd hx hb dL_law_311 ?_
    refine jtopr ex11.symm ?_
    refine va_sld hx hb hX hbl hbA hS (jin tx11 (by omega) (by omega)) dL_law_312 ?_
    refine lv_aload_n hx hb dL_law_313 rfl (lv_at hl 3 rfl) ?_
    refine lv_iload_n hx hb dL_law_314 rfl (lv_at hl 0 rfl) ?_
    refine lv_iconst (v := 3) hx hb dL_law_315 (by decide) ?_
    refine lv_iadd hx hb dL_law_316 ?_
    refine jtopr ex13.symm ?_
    refine va_sld hx hb hX hbl hbA hS (jin tx13 (by omega) (by omega)) dL_law_317 ?_
    have I28 : jI101 σ15 := jI101_fr (congrFun (f17 55 (by decide)) 4) (congrFun (f17 55 (by decide)) 5) (f17 56 (by decide)) (f17 57 (by decide)) (f17 58 (by decide)) (f17 59 (by decide)) hI101
    have z29 : (σ15 55 5).toInt = (σ 55 5).toInt := (congrArg Int32.toInt (show σ15 55 5 = (σ 55 5) from (congrFun (f17 55 (by decide)) 5)))
    have z30 : (σ15 55 4).toInt = (σ 55 4).toInt := (congrArg Int32.toInt (show σ15 55 4 = (σ 55 4) from (congrFun (f17 55 (by decide)) 4)))
    refine jcallV (As := [.int (xs x9.toNatClampNeg), .int (xs x11.toNatClampNeg), .int (xs x13.toNatClampNeg)]) (rest := []) ⟨hx, hb, hml, hown, hts⟩ hK hP hA hS hZ (c_X12_field l D cI cL ad zz hJ σ15 τ (xs x9.toNatClampNeg) ((xs x9.toNatClampNeg).toInt) rfl (xs x11.toNatClampNeg) ((xs x11.toNatClampNeg).toInt) rfl (xs x13.toNatClampNeg) ((xs x13.toNatClampNeg).toInt) rfl I28) cw_RL_25 (jc_55 cI cL ad σ15 τ) rfl ⟨Nat.le_of_ble_eq_true rfl, Nat.le_of_ble_eq_true rfl⟩ rfl rfl rfl hl.1 rfl (Nat.le_of_ble_eq_true rfl) dL_law_318 ⟨Nat.le_of_ble_eq_true rfl, Nat.le_of_ble_eq_true rfl⟩ (fun r32 σ31 τ31 H locs h31 hP hS => ?_)
    obtain ⟨rfl, f33, f34, I35, h31⟩ := h31
    rcases h31 with h37 | h38
    · obtain ⟨q43, k39, k40, k41, k42⟩ := h37
      have q43 := q43.symm
      subst q43
      refine lv_pop hx hb dL_law_321 rfl ?_
      refine lv_goto (tgt := 1357) hx hb dL_law_322 (by decide) ?_
      obtain ⟨x44, ex44⟩ : ∃ y : Int32, y = x0 + 6 := ⟨_, rfl⟩
      have tx44 : x44.toInt = x0.toInt + 6 := (jadd ex44 rfl jz_6 (by omega) (by omega)).trans (by omega)
      refine lv_iinc (v := x44) (lv' := [(3, .int x44), (2, .ref (ad 55)), (1, .ref (ad 0)), (0, .ref b)]) hx hb dL_law_1357 hl (k := 0) rfl (by rw [ex44]; rfl) (by decide) rfl (fun ls hl => ?_)
      refine lv_goto (tgt := 18) hx hb dL_law_1360 (by decide) ?_
      have I45 : jI2 σ31 := jI2_fr (congrFun (f33 2 (by decide)) 0) (congrFun (f33 2 (by decide)) 1) (congrFun (f33 2 (by decide)) 2) (congrFun (f33 2 (by decide)) 3) (f33 6 (by decide)) I19
      have I46 : jI9 σ31 := jI9_fr ((congrFun (f33 9 (by decide)) 0).trans (congrFun (f17 9 (by decide)) 0)) ((f33 10 (by decide)).trans (f17 10 (by decide))) ((f33 11 (by decide)).trans (f17 11 (by decide))) hI9
      have I47 : jI12 σ31 := jI12_fr ((congrFun (f33 12 (by decide)) 0).trans (congrFun (f17 12 (by decide)) 0)) ((f33 13 (by decide)).trans (f17 13 (by decide))) hI12
      have I48 : jI16 σ31 := jI16_fr ((congrFun (f33 16 (by decide)) 0).trans (congrFun (f17 16 (by decide)) 0)) ((congrFun (f33 16 (by decide)) 1).trans (congrFun (f17 16 (by decide)) 1)) ((congrFun (f33 16 (by decide)) 2).trans (congrFun (f17 16 (by decide)) 2)) ((f33 17 (by decide)).trans (f17 17 (by decide))) hI16
      have I49 : jI18 σ31 := jI18_fr ((congrFun (f33 18 (by decide)) 0).trans (congrFun (f17 18 (by decide)) 0)) ((f33 19 (by decide)).trans (f17 19 (by decide))) hI18
      have I50 : jI22 σ31 := jI22_fr ((congrFun (f33 22 (by decide)) 0).trans (congrFun (f17 22 (by decide)) 0)) ((f33 23 (by decide)).trans (f17 23 (by decide))) hI22
      have I51 : jI31 σ31 := jI31_fr ((congrFun (f33 31 (by decide)) 8).trans (congrFun (f17 31 (by decide)) 8)) ((f33 33 (by decide)).trans (f17 33 (by decide))) ((f33 36 (by decide)).trans (f17 36 (by decide))) hI31
      have I52 : jI38 σ31 := jI38_fr ((congrFun (f33 38 (by decide)) 0).trans (congrFun (f17 38 (by decide)) 0)) ((congrFun (f33 38 (by decide)) 1).trans (congrFun (f17 38 (by decide)) 1)) ((f33 39 (by decide)).trans (f17 39 (by decide))) hI38
      have I53 : jI43 σ31 := jI43_fr ((congrFun (f33 43 (by decide)) 8).trans (congrFun (f17 43 (by decide)) 8)) hI43
      have I54 : jI47 σ31 := jI47_fr ((congrFun (f33 47 (by decide)) 0).trans (congrFun (f17 47 (by decide)) 0)) ((f33 48 (by decide)).trans (f17 48 (by decide))) ((f33 49 (by decide)).trans (f17 49 (by decide))) hI47
      have I55 : jI50 σ31 := jI50_fr ((f33 52 (by decide)).trans (f17 52 (by decide))) hI50
      have I56 : jI102 σ31 := jI102_fr ((f34 6 (by decide)).trans (congrFun (f17 55 (by decide)) 6)) ((f33 60 (by decide)).trans (f17 60 (by decide))) ((f33 61 (by decide)).trans (f17 61 (by decide))) hI102
      have I57 : jI103 σ31 := jI103_fr ((f34 9 (by decide)).trans (congrFun (f17 55 (by decide)) 9)) hI103
      have I58 : jI104 σ31 := jI104_fr ((f34 10 (by decide)).trans (congrFun (f17 55 (by decide)) 10)) ((f34 12 (by decide)).trans (congrFun (f17 55 (by decide)) 12)) ((f34 13 (by decide)).trans (congrFun (f17 55 (by decide)) 13)) ((f33 62 (by decide)).trans (f17 62 (by decide))) ((f33 67 (by decide)).trans (f17 67 (by decide))) hI104
      have I59 : jI105 σ31 := jI105_fr ((f34 15 (by decide)).trans (congrFun (f17 55 (by decide)) 15)) ((f33 65 (by decide)).trans (f17 65 (by decide))) hI105
      have I60 : jI106 σ31 := jI106_fr ((f34 32 (by decide)).trans (congrFun (f17 55 (by decide)) 32)) ((f33 70 (by decide)).trans (f17 70 (by decide))) ((f33 71 (by decide)).trans (f17 71 (by decide))) ((f33 72 (by decide)).trans (f17 72 (by decide))) hI106
      have I61 : jI107 σ31 := jI107_fr ((f34 12 (by decide)).trans (congrFun (f17 55 (by decide)) 12)) ((f34 47 (by decide)).trans (congrFun (f17 55 (by decide)) 47)) ((f33 80 (by decide)).trans (f17 80 (by decide))) hI107
      have I62 : jI109 σ31 := jI109_fr ((f34 50 (by decide)).trans (congrFun (f17 55 (by decide)) 50)) hI109
      have I63 : jI110 σ31 := jI110_fr ((f33 86 (by decide)).trans (f17 86 (by decide))) ((f33 87 (by decide)).trans (f17 87 (by decide))) hI110
      have I64 : jI111 σ31 := jI111_fr ((f33 79 (by decide)).trans (f17 79 (by decide))) hI111
      have I65 : jI119 σ31 := jI119_fr ((f33 68 (by decide)).trans (f17 68 (by decide))) hI119
      have p66 : jKept σ31 := jKept.fr ((f33 75 (by decide)).trans (f17 75 (by decide))) ((f33 76 (by decide)).trans (f17 76 (by decide))) ((f33 77 (by decide)).trans (f17 77 (by decide))) hs_jKept
      have p67 : jBook σ31 := jBook.fr ((f34 47 (by decide)).trans (congrFun (f17 55 (by decide)) 47)) ((f34 10 (by decide)).trans (congrFun (f17 55 (by decide)) 10)) ((f33 81 (by decide)).trans (f17 81 (by decide))) hs_jBook
      have z68 : (σ31 38 0).toInt = (σ 38 0).toInt := (congrArg Int32.toInt (show σ31 38 0 = (σ 38 0) from ((congrFun (f33 38 (by decide)) 0).trans (congrFun (f17 38 (by decide)) 0))))
      have z69 : (σ31 55 32).toInt = (σ 55 32).toInt := (congrArg Int32.toInt (show σ31 55 32 = (σ 55 32) from ((f34 32 (by decide)).trans (congrFun (f17 55 (by decide)) 32))))
      exact ih x44 σ31 τ _ _ ls (by have h9 := tx44; omega) ⟨I45, I46, I47, I48, I49, I50, I51, I52, I53, I54, I55, I35, I56, I57, I58, I59, I60, I61, I62, I63, I64, I65, p66, p67, (by omega), (show jShP (σ31 51) (σ31 52) (σ31 53) (σ31 86) (σ31 87) (σ31 55 32).toInt by rw [show σ31 51 = σ 51 from ((f33 51 (by decide)).trans (f17 51 (by decide))), show σ31 52 = σ 52 from ((f33 52 (by decide)).trans (f17 52 (by decide))), show σ31 53 = σ 53 from ((f33 53 (by decide)).trans (f17 53 (by decide))), show σ31 86 = σ 86 from ((f33 86 (by decide)).trans (f17 86 (by decide))), show σ31 87 = σ 87 from ((f33 87 (by decide)).trans (f17 87 (by decide)))]; exact (hr0.up (by omega) (by omega))), (show jKd (σ31 39) (σ31 70) (σ31 55 32).toInt by rw [show σ31 39 = σ 39 from ((f33 39 (by decide)).trans (f17 39 (by decide))), show σ31 70 = σ 70 from ((f33 70 (by decide)).trans (f17 70 (by decide))), show (σ31 55 32).toInt = (σ 55 32).toInt from by omega]; exact hr1)⟩ hP hS (lv_sub hl [0, 1, 2, 3] rfl)
    · obtain ⟨q71, k70⟩ := h38
      refine lv_pop hx hb dL_law_321 rfl ?_
      refine lv_goto (tgt := 1357) hx hb dL_law_322 (by decide) ?_
      obtain ⟨x72, ex72⟩ : ∃ y : Int32, y = x0 + 6 := ⟨_, rfl⟩
      have tx72 : x72.toInt = x0.toInt + 6 := (jadd ex72 rfl jz_6 (by omega) (by omega)).trans (by omega)
      refine lv_iinc (v := x72) (lv' := [(3, .int x72), (2, .ref (ad 55)), (1, .ref (ad 0)), (0, .ref b)]) hx hb dL_law_1357 hl (k := 0) rfl (by rw [ex72]; rfl) (by decide) rfl (fun ls hl => ?_)
      refine lv_goto (tgt := 18) hx hb dL_law_1360 (by decide) ?_
      have I73 : jI2 σ31 := jI2_fr (congrFun (f33 2 (by decide)) 0) (congrFun (f33 2 (by decide)) 1) (congrFun (f33 2 (by decide)) 2) (congrFun (f33 2 (by decide)) 3) (f33 6 (by decide)) I19
      have I74 : jI9 σ31 := jI9_fr ((congrFun (f33 9 (by decide)) 0).trans (congrFun (f17 9 (by decide)) 0)) ((f33 10 (by decide)).trans (f17 10 (by decide))) ((f33 11 (by decide)).trans (f17 11 (by decide))) hI9
      have I75 : jI12 σ31 := jI12_fr ((congrFun (f33 12 (by decide)) 0).trans (congrFun (f17 12 (by decide)) 0)) ((f33 13 (by decide)).trans (f17 13 (by decide))) hI12
      have I76 : jI16 σ31 := jI16_fr ((congrFun (f33 16 (by decide)) 0).trans (congrFun (f17 16 (by decide)) 0)) ((congrFun (f33 16 (by decide)) 1).trans (congrFun (f17 16 (by decide)) 1)) ((congrFun (f33 16 (by decide)) 2).trans (congrFun (f17 16 (by decide)) 2)) ((f33 17 (by decide)).trans (f17 17 (by decide))) hI16
      have I77 : jI18 σ31 := jI18_fr ((congrFun (f33 18 (by decide)) 0).trans (congrFun (f17 18 (by decide)) 0)) ((f33 19 (by decide)).trans (f17 19 (by decide))) hI18
      have I78 : jI22 σ31 := jI22_fr ((congrFun (f33 22 (by decide)) 0).trans (congrFun (f17 22 (by decide)) 0)) ((f33 23 (by decide)).trans (f17 23 (by decide))) hI22
      have I79 : jI31 σ31 := jI31_fr ((congrFun (f33 31 (by decide)) 8).trans (congrFun (f17 31 (by decide)) 8)) ((f33 33 (by decide)).trans (f17 33 (by decide))) ((f33 36 (by decide)).trans (f17 36 (by decide))) hI31
      have I80 : jI38 σ31 := jI38_fr ((congrFun (f33 38 (by decide)) 0).trans (congrFun (f17 38 (by decide)) 0)) ((congrFun (f33 38 (by decide)) 1).trans (congrFun (f17 38 (by decide)) 1)) ((f33 39 (by decide)).trans (f17 39 (by decide))) hI38
      have I81 : jI43 σ31 := jI43_fr ((congrFun (f33 43 (by decide)) 8).trans (congrFun (f17 43 (by decide)) 8)) hI43
      have I82 : jI47 σ31 := jI47_fr ((congrFun (f33 47 (by decide)) 0).trans (congrFun (f17 47 (by decide)) 0)) ((f33 48 (by decide)).trans (f17 48 (by decide))) ((f33 49 (by decide)).trans (f17 49 (by decide))) hI47
      have I83 : jI50 σ31 := jI50_fr ((f33 52 (by decide)).trans (f17 52 (by decide))) hI50
      have I84 : jI102 σ31 := jI102_fr ((f34 6 (by decide)).trans (congrFun (f17 55 (by decide)) 6)) ((f33 60 (by decide)).trans (f17 60 (by decide))) ((f33 61 (by decide)).trans (f17 61 (by decide))) hI102
      have I85 : jI103 σ31 := jI103_fr ((f34 9 (by decide)).trans (congrFun (f17 55 (by decide)) 9)) hI103
      have I86 : jI104 σ31 := jI104_fr ((f34 10 (by decide)).trans (congrFun (f17 55 (by decide)) 10)) ((f34 12 (by decide)).trans (congrFun (f17 55 (by decide)) 12)) ((f34 13 (by decide)).trans (congrFun (f17 55 (by decide)) 13)) ((f33 62 (by decide)).trans (f17 62 (by decide))) ((f33 67 (by decide)).trans (f17 67 (by decide))) hI104
      have I87 : jI105 σ31 := jI105_fr ((f34 15 (by decide)).trans (congrFun (f17 55 (by decide)) 15)) ((f33 65 (by decide)).trans (f17 65 (by decide))) hI105
      have I88 : jI106 σ31 := jI106_fr ((f34 32 (by decide)).trans (congrFun (f17 55 (by decide)) 32)) ((f33 70 (by decide)).trans (f17 70 (by decide))) ((f33 71 (by decide)).trans (f17 71 (by decide))) ((f33 72 (by decide)).trans (f17 72 (by decide))) hI106
      have I89 : jI107 σ31 := jI107_fr ((f34 12 (by decide)).trans (congrFun (f17 55 (by decide)) 12)) ((f34 47 (by decide)).trans (congrFun (f17 55 (by decide)) 47)) ((f33 80 (by decide)).trans (f17 80 (by decide))) hI107
      have I90 : jI109 σ31 := jI109_fr ((f34 50 (by decide)).trans (congrFun (f17 55 (by decide)) 50)) hI109
      have I91 : jI110 σ31 := jI110_fr ((f33 86 (by decide)).trans (f17 86 (by decide))) ((f33 87 (by decide)).trans (f17 87 (by decide))) hI110
      have I92 : jI111 σ31 := jI111_fr ((f33 79 (by decide)).trans (f17 79 (by decide))) hI111
      have I93 : jI119 σ31 := jI119_fr ((f33 68 (by decide)).trans (f17 68 (by decide))) hI119
      have p94 : jKept σ31 := jKept.fr ((f33 75 (by decide)).trans (f17 75 (by decide))) ((f33 76 (by decide)).trans (f17 76 (by decide))) ((f33 77 (by decide)).trans (f17 77 (by decide))) hs_jKept
      have p95 : jBook σ31 := jBook.fr ((f34 47 (by decide)).trans (congrFun (f17 55 (by decide)) 47)) ((f34 10 (by decide)).trans (congrFun (f17 55 (by decide)) 10)) ((f33 81 (by decide)).trans (f17 81 (by decide))) hs_jBook
      have z96 : (σ31 38 0).toInt = (σ 38 0).toInt := (congrArg Int32.toInt (show σ31 38 0 = (σ 38 0) from ((congrFun (f33 38 (by decide)) 0).trans (congrFun (f17 38 (by decide)) 0))))
      have z97 : (σ31 55 32).toInt = (σ 55 32).toInt := (congrArg Int32.toInt (show σ31 55 32 = (σ 55 32) from ((f34 32 (by decide)).trans (congrFun (f17 55 (by decide)) 32))))
      exact ih x72 σ31 τ _ _ ls (by have h9 := tx72; omega) ⟨I73, I74, I75, I76, I77, I78, I79, I80, I81, I82, I83, I35, I84, I85, I86, I87, I88, I89, I90, I91, I92, I93, p94, p95, (by omega), (show jShP (σ31 51) (σ31 52) (σ31 53) (σ31 86) (σ31 87) (σ31 55 32).toInt by rw [show σ31 51 = σ 51 from ((f33 51 (by decide)).trans (f17 51 (by decide))), show σ31 52 = σ 52 from ((f33 52 (by decide)).trans (f17 52 (by decide))), show σ31 53 = σ 53 from ((f33 53 (by decide)).trans (f17 53 (by decide))), show σ31 86 = σ 86 from ((f33 86 (by decide)).trans (f17 86 (by decide))), show σ31 87 = σ 87 from ((f33 87 (by decide)).trans (f17 87 (by decide)))]; exact (hr0.up (by omega) (by omega))), (show jKd (σ31 39) (σ31 70) (σ31 55 32).toInt by rw [show σ31 39 = σ 39 from ((f33 39 (by decide)).trans (f17 39 (by decide))), show σ31 70 = σ 70 from ((f33 70 (by decide)).trans (f17 70 (by decide))), show (σ31 55 32).toInt = (σ 55 32).toInt from by omega]; exact hr1)⟩ hP hS (lv_sub hl [0, 1, 2, 3] rfl)
  · obtain ⟨q99, k98⟩ := h22
    refine lv_pop hx hb dL_law_301 rfl ?_
    refine lv_aload_n hx hb dL_law_302 rfl (lv_at hl 1 rfl) ?_
    refine lv_aload_n hx hb dL_law_303 rfl (lv_at hl 3 rfl) ?_
    refine lv_iload_n hx hb dL_law_304 rfl (lv_at hl 0 rfl) ?_
    refine lv_iconst (v := 1) hx hb dL_law_305 (by decide) ?_
    refine lv_iadd hx hb dL_law_306 ?_
    refine jtopr ex9.symm ?_
    refine va_sld hx hb hX hbl hbA hS (jin tx9 (by omega) (by omega)) dL_law_307 ?_
    refine lv_aload_n hx hb dL_law_308 rfl (lv_at hl 3 rfl) ?_
    refine lv_iload_n hx hb dL_law_309 rfl (lv_at hl 0 rfl) ?_
    refine lv_iconst (v := 2) hx hb dL_law_310 (by decide) ?_
    refine lv_iadd hx hb dL_law_311 ?_
    refine jtopr ex11.symm ?_
    refine va_sld hx hb hX hbl hbA hS (jin tx11 (by omega) (by omega)) dL_law_312 ?_
    refine lv_aload_n hx hb dL_law_313 rfl (lv_at hl 3 rfl) ?_
    refine lv_iload_n hx hb dL_law_314 rfl (lv_at hl 0 rfl) ?_
    refine lv_iconst (v := 3) hx hb dL_law_315 (by decide) ?_
    refine lv_iadd hx hb dL_law_316 ?_
    refine jtopr ex13.symm ?_
    refine va_sld hx hb hX hbl hbA hS (jin tx13 (by omega) (by omega)) dL_law_317 ?_
    have I100 : jI101 σ15 := jI101_fr (congrFun (f17 55 (by decide)) 4) (congrFun (f17 55 (by decide)) 5) (f17 56 (by decide)) (f17 57 (by decide)) (f17 58 (by decide)) (f17 59 (by decide)) hI101
    have z101 : (σ15 55 5).toInt = (σ 55 5).toInt := (congrArg Int32.toInt (show σ15 55 5 = (σ 55 5) from (congrFun (f17 55 (by decide)) 5)))
    have z102 : (σ15 55 4).toInt = (σ 55 4).toInt := (congrArg Int32.toInt (show σ15 55 4 = (σ 55 4) from (congrFun (f17 55 (by decide)) 4)))
    refine jcallV (As := [.int (xs x9.toNatClampNeg), .int (xs x11.toNatClampNeg), .int (xs x13.toNatClampNeg)]) (rest := []) ⟨hx, hb, hml, hown, hts⟩ hK hP hA hS hZ (c_X12_field l D cI cL ad zz hJ σ15 τ (xs x9.toNatClampNeg) ((xs x9.toNatClampNeg).toInt) rfl (xs x11.toNatClampNeg) ((xs x11.toNatClampNeg).toInt) rfl (xs x13.toNatClampNeg) ((xs x13.toNatClampNeg).toInt) rfl I100) cw_RL_25 (jc_55 cI cL ad σ15 τ) rfl ⟨Nat.le_of_ble_eq_true rfl, Nat.le_of_ble_eq_true rfl⟩ rfl rfl rfl hl.1 rfl (Nat.le_of_ble_eq_true rfl) dL_law_318 ⟨Nat.le_of_ble_eq_true rfl, Nat.le_of_ble_eq_true rfl⟩ (fun r104 σ103 τ103 H locs h103 hP hS => ?_)
    obtain ⟨rfl, f105, f106, I107, h103⟩ := h103
    rcases h103 with h109 | h110
    · obtain ⟨q115, k111, k112, k113, k114⟩ := h109
      have q115 := q115.symm
      subst q115
      refine lv_pop hx hb dL_law_321 rfl ?_
      refine lv_goto (tgt := 1357) hx hb dL_law_322 (by decide) ?_
      obtain ⟨x116, ex116⟩ : ∃ y : Int32, y = x0 + 6 := ⟨_, rfl⟩
      have tx116 : x116.toInt = x0.toInt + 6 := (jadd ex116 rfl jz_6 (by omega) (by omega)).trans (by omega)
      refine lv_iinc (v := x116) (lv' := [(3, .int x116), (2, .ref (ad 55)), (1, .ref (ad 0)), (0, .ref b)]) hx hb dL_law_1357 hl (k := 0) rfl (by rw [ex116]; rfl) (by decide) rfl (fun ls hl => ?_)
      refine lv_goto (tgt := 18) hx hb dL_law_1360 (by decide) ?_
      have I117 : jI2 σ103 := jI2_fr (congrFun (f105 2 (by decide)) 0) (congrFun (f105 2 (by decide)) 1) (congrFun (f105 2 (by decide)) 2) (congrFun (f105 2 (by decide)) 3) (f105 6 (by decide)) I19
      have I118 : jI9 σ103 := jI9_fr ((congrFun (f105 9 (by decide)) 0).trans (congrFun (f17 9 (by decide)) 0)) ((f105 10 (by decide)).trans (f17 10 (by decide))) ((f105 11 (by decide)).trans (f17 11 (by decide))) hI9
      have I119 : jI12 σ103 := jI12_fr ((congrFun (f105 12 (by decide)) 0).trans (congrFun (f17 12 (by decide)) 0)) ((f105 13 (by decide)).trans (f17 13 (by decide))) hI12
      have I120 : jI16 σ103 := jI16_fr ((congrFun (f105 16 (by decide)) 0).trans (congrFun (f17 16 (by decide)) 0)) ((congrFun (f105 16 (by decide)) 1).trans (congrFun (f17 16 (by decide)) 1)) ((congrFun (f105 16 (by decide)) 2).trans (congrFun (f17 16 (by decide)) 2)) ((f105 17 (by decide)).trans (f17 17 (by decide))) hI16
      have I121 : jI18 σ103 := jI18_fr ((congrFun (f105 18 (by decide)) 0).trans (congrFun (f17 18 (by decide)) 0)) ((f105 19 (by decide)).trans (f17 19 (by decide))) hI18
      have I122 : jI22 σ103 := jI22_fr ((congrFun (f105 22 (by decide)) 0).trans (congrFun (f17 22 (by decide)) 0)) ((f105 23 (by decide)).trans (f17 23 (by decide))) hI22
      have I123 : jI31 σ103 := jI31_fr ((congrFun (f105 31 (by decide)) 8).trans (congrFun (f17 31 (by decide)) 8)) ((f105 33 (by decide)).trans (f17 33 (by decide))) ((f105 36 (by decide)).trans (f17 36 (by decide))) hI31
      have I124 : jI38 σ103 := jI38_fr ((congrFun (f105 38 (by decide)) 0).trans (congrFun (f17 38 (by decide)) 0)) ((congrFun (f105 38 (by decide)) 1).trans (congrFun (f17 38 (by decide)) 1)) ((f105 39 (by decide)).trans (f17 39 (by decide))) hI38
      have I125 : jI43 σ103 := jI43_fr ((congrFun (f105 43 (by decide)) 8).trans (congrFun (f17 43 (by decide)) 8)) hI43
      have I126 : jI47 σ103 := jI47_fr ((congrFun (f105 47 (by decide)) 0).trans (congrFun (f17 47 (by decide)) 0)) ((f105 48 (by decide)).trans (f17 48 (by decide))) ((f105 49 (by decide)).trans (f17 49 (by decide))) hI47
      have I127 : jI50 σ103 := jI50_fr ((f105 52 (by decide)).trans (f17 52 (by decide))) hI50
      have I128 : jI102 σ103 := jI102_fr ((f106 6 (by decide)).trans (congrFun (f17 55 (by decide)) 6)) ((f105 60 (by decide)).trans (f17 60 (by decide))) ((f105 61 (by decide)).trans (f17 61 (by decide))) hI102
      have I129 : jI103 σ103 := jI103_fr ((f106 9 (by decide)).trans (congrFun (f17 55 (by decide)) 9)) hI103
      have I130 : jI104 σ103 := jI104_fr ((f106 10 (by decide)).trans (congrFun (f17 55 (by decide)) 10)) ((f106 12 (by decide)).trans (congrFun (f17 55 (by decide)) 12)) ((f106 13 (by decide)).trans (congrFun (f17 55 (by decide)) 13)) ((f105 62 (by decide)).trans (f17 62 (by decide))) ((f105 67 (by decide)).trans (f17 67 (by decide))) hI104
      have I131 : jI105 σ103 := jI105_fr ((f106 15 (by decide)).trans (congrFun (f17 55 (by decide)) 15)) ((f105 65 (by decide)).trans (f17 65 (by decide))) hI105
      have I132 : jI106 σ103 := jI106_fr ((f106 32 (by decide)).trans (congrFun (f17 55 (by decide)) 32)) ((f105 70 (by decide)).trans (f17 70 (by decide))) ((f105 71 (by decide)).trans (f17 71 (by decide))) ((f105 72 (by decide)).trans (f17 72 (by decide))) hI106
      have I133 : jI107 σ103 := jI107_fr ((f106 12 (by decide)).trans (congrFun (f17 55 (by decide)) 12)) ((f106 47 (by decide)).trans (congrFun (f17 55 (by decide)) 47)) ((f105 80 (by decide)).trans (f17 80 (by decide))) hI107
      have I134 : jI109 σ103 := jI109_fr ((f106 50 (by decide)).trans (congrFun (f17 55 (by decide)) 50)) hI109
      have I135 : jI110 σ103 := jI110_fr ((f105 86 (by decide)).trans (f17 86 (by decide))) ((f105 87 (by decide)).trans (f17 87 (by decide))) hI110
      have I136 : jI111 σ103 := jI111_fr ((f105 79 (by decide)).trans (f17 79 (by decide))) hI111
      have I137 : jI119 σ103 := jI119_fr ((f105 68 (by decide)).trans (f17 68 (by decide))) hI119
      have p138 : jKept σ103 := jKept.fr ((f105 75 (by decide)).trans (f17 75 (by decide))) ((f105 76 (by decide)).trans (f17 76 (by decide))) ((f105 77 (by decide)).trans (f17 77 (by decide))) hs_jKept
      have p139 : jBook σ103 := jBook.fr ((f106 47 (by decide)).trans (congrFun (f17 55 (by decide)) 47)) ((f106 10 (by decide)).trans (congrFun (f17 55 (by decide)) 10)) ((f105 81 (by decide)).trans (f17 81 (by decide))) hs_jBook
      have z140 : (σ103 38 0).toInt = (σ 38 0).toInt := (congrArg Int32.toInt (show σ103 38 0 = (σ 38 0) from ((congrFun (f105 38 (by decide)) 0).trans (congrFun (f17 38 (by decide)) 0))))
      have z141 : (σ103 55 32).toInt = (σ 55 32).toInt := (congrArg Int32.toInt (show σ103 55 32 = (σ 55 32) from ((f106 32 (by decide)).trans (congrFun (f17 55 (by decide)) 32))))
      exact ih x116 σ103 τ _ _ ls (by have h9 := tx116; omega) ⟨I117, I118, I119, I120, I121, I122, I123, I124, I125, I126, I127, I107, I128, I129, I130, I131, I132, I133, I134, I135, I136, I137, p138, p139, (by omega), (show jShP (σ103 51) (σ103 52) (σ103 53) (σ103 86) (σ103 87) (σ103 55 32).toInt by rw [show σ103 51 = σ 51 from ((f105 51 (by decide)).trans (f17 51 (by decide))), show σ103 52 = σ 52 from ((f105 52 (by decide)).trans (f17 52 (by decide))), show σ103 53 = σ 53 from ((f105 53 (by decide)).trans (f17 53 (by decide))), show σ103 86 = σ 86 from ((f105 86 (by decide)).trans (f17 86 (by decide))), show σ103 87 = σ 87 from ((f105 87 (by decide)).trans (f17 87 (by decide)))]; exact (hr0.up (by omega) (by omega))), (show jKd (σ103 39) (σ103 70) (σ103 55 32).toInt by rw [show σ103 39 = σ 39 from ((f105 39 (by decide)).trans (f17 39 (by decide))), show σ103 70 = σ 70 from ((f105 70 (by decide)).trans (f17 70 (by decide))), show (σ103 55 32).toInt = (σ 55 32).toInt from by omega]; exact hr1)⟩ hP hS (lv_sub hl [0, 1, 2, 3] rfl)
    · obtain ⟨q143, k142⟩ := h110
      refine lv_pop hx hb dL_law_321 rfl ?_
      refine lv_goto (tgt := 1357) hx hb dL_law_322 (by decide) ?_
      obtain ⟨x144, ex144⟩ : ∃ y : Int32, y = x0 + 6 := ⟨_, rfl⟩
      have tx144 : x144.toInt = x0.toInt + 6 := (jadd ex144 rfl jz_6 (by omega) (by omega)).trans (by omega)
      refine lv_iinc (v := x144) (lv' := [(3, .int x144), (2, .ref (ad 55)), (1, .ref (ad 0)), (0, .ref b)]) hx hb dL_law_1357 hl (k := 0) rfl (by rw [ex144]; rfl) (by decide) rfl (fun ls hl => ?_)
      refine lv_goto (tgt := 18) hx hb dL_law_1360 (by decide) ?_
      have I145 : jI2 σ103 := jI2_fr (congrFun (f105 2 (by decide)) 0) (congrFun (f105 2 (by decide)) 1) (congrFun (f105 2 (by decide)) 2) (congrFun (f105 2 (by decide)) 3) (f105 6 (by decide)) I19
      have I146 : jI9 σ103 := jI9_fr ((congrFun (f105 9 (by decide)) 0).trans (congrFun (f17 9 (by decide)) 0)) ((f105 10 (by decide)).trans (f17 10 (by decide))) ((f105 11 (by decide)).trans (f17 11 (by decide))) hI9
      have I147 : jI12 σ103 := jI12_fr ((congrFun (f105 12 (by decide)) 0).trans (congrFun (f17 12 (by decide)) 0)) ((f105 13 (by decide)).trans (f17 13 (by decide))) hI12
      have I148 : jI16 σ103 := jI16_fr ((congrFun (f105 16 (by decide)) 0).trans (congrFun (f17 16 (by decide)) 0)) ((congrFun (f105 16 (by decide)) 1).trans (congrFun (f17 16 (by decide)) 1)) ((congrFun (f105 16 (by decide)) 2).trans (congrFun (f17 16 (by decide)) 2)) ((f105 17 (by decide)).trans (f17 17 (by decide))) hI16
      have I149 : jI18 σ103 := jI18_fr ((congrFun (f105 18 (by decide)) 0).trans (congrFun (f17 18 (by decide)) 0)) ((f105 19 (by decide)).trans (f17 19 (by decide))) hI18
      have I150 : jI22 σ103 := jI22_fr ((congrFun (f105 22 (by decide)) 0).trans (congrFun (f17 22 (by decide)) 0)) ((f105 23 (by decide)).trans (f17 23 (by decide))) hI22
      have I151 : jI31 σ103 := jI31_fr ((congrFun (f105 31 (by decide)) 8).trans (congrFun (f17 31 (by decide)) 8)) ((f105 33 (by decide)).trans (f17 33 (by decide))) ((f105 36 (by decide)).trans (f17 36 (by decide))) hI31
      have I152 : jI38 σ103 := jI38_fr ((congrFun (f105 38 (by decide)) 0).trans (congrFun (f17 38 (by decide)) 0)) ((congrFun (f105 38 (by decide)) 1).trans (congrFun (f17 38 (by decide)) 1)) ((f105 39 (by decide)).trans (f17 39 (by decide))) hI38
      have I153 : jI43 σ103 := jI43_fr ((congrFun (f105 43 (by decide)) 8).trans (congrFun (f17 43 (by decide)) 8)) hI43
      have I154 : jI47 σ103 := jI47_fr ((congrFun (f105 47 (by decide)) 0).trans (congrFun (f17 47 (by decide)) 0)) ((f105 48 (by decide)).trans (f17 48 (by decide))) ((f105 49 (by decide)).trans (f17 49 (by decide))) hI47
      have I155 : jI50 σ103 := jI50_fr ((f105 52 (by decide)).trans (f17 52 (by decide))) hI50
      have I156 : jI102 σ103 := jI102_fr ((f106 6 (by decide)).trans (congrFun (f17 55 (by decide)) 6)) ((f105 60 (by decide)).trans (f17 60 (by decide))) ((f105 61 (by decide)).trans (f17 61 (by decide))) hI102
      have I157 : jI103 σ103 := jI103_fr ((f106 9 (by decide)).trans (congrFun (f17 55 (by decide)) 9)) hI103
      have I158 : jI104 σ103 := jI104_fr ((f106 10 (by decide)).trans (congrFun (f17 55 (by decide)) 10)) ((f106 12 (by decide)).trans (congrFun (f17 55 (by decide)) 12)) ((f106 13 (by decide)).trans (congrFun (f17 55 (by decide)) 13)) ((f105 62 (by decide)).trans (f17 62 (by decide))) ((f105 67 (by decide)).trans (f17 67 (by decide))) hI104
      have I159 : jI105 σ103 := jI105_fr ((f106 15 (by decide)).trans (congrFun (f17 55 (by decide)) 15)) ((f105 65 (by decide)).trans (f17 65 (by decide))) hI105
      have I160 : jI106 σ103 := jI106_fr ((f106 32 (by decide)).trans (congrFun (f17 55 (by decide)) 32)) ((f105 70 (by decide)).trans (f17 70 (by decide))) ((f105 71 (by decide)).trans (f17 71 (by decide))) ((f105 72 (by decide)).trans (f17 72 (by decide))) hI106
      have I161 : jI107 σ103 := jI107_fr ((f106 12 (by decide)).trans (congrFun (f17 55 (by decide)) 12)) ((f106 47 (by decide)).trans (congrFun (f17 55 (by decide)) 47)) ((f105 80 (by decide)).trans (f17 80 (by decide))) hI107
      have I162 : jI109 σ103 := jI109_fr ((f106 50 (by decide)).trans (congrFun (f17 55 (by decide)) 50)) hI109
      have I163 : jI110 σ103 := jI110_fr ((f105 86 (by decide)).trans (f17 86 (by decide))) ((f105 87 (by decide)).trans (f17 87 (by decide))) hI110
      have I164 : jI111 σ103 := jI111_fr ((f105 79 (by decide)).trans (f17 79 (by decide))) hI111
      have I165 : jI119 σ103 := jI119_fr ((f105 68 (by decide)).trans (f17 68 (by decide))) hI119
      have p166 : jKept σ103 := jKept.fr ((f105 75 (by decide)).trans (f17 75 (by decide))) ((f105 76 (by decide)).trans (f17 76 (by decide))) ((f105 77 (by decide)).trans (f17 77 (by decide))) hs_jKept
      have p167 : jBook σ103 := jBook.fr ((f106 47 (by decide)).trans (congrFun (f17 55 (by decide)) 47)) ((f106 10 (by decide)).trans (congrFun (f17 55 (by decide)) 10)) ((f105 81 (by decide)).trans (f17 81 (by decide))) hs_jBook
      have z168 : (σ103 38 0).toInt = (σ 38 0).toInt := (congrArg Int32.toInt (show σ103 38 0 = (σ 38 0) from ((congrFun (f105 38 (by decide)) 0).trans (congrFun (f17 38 (by decide)) 0))))
      have z169 : (σ103 55 32).toInt = (σ 55 32).toInt := (congrArg Int32.toInt (show σ103 55 32 = (σ 55 32) from ((f106 32 (by decide)).trans (congrFun (f17 55 (by decide)) 32))))
      exact ih x144 σ103 τ _ _ ls (by have h9 := tx144; omega) ⟨I145, I146, I147, I148, I149, I150, I151, I152, I153, I154, I155, I107, I156, I157, I158, I159, I160, I161, I162, I163, I164, I165, p166, p167, (by omega), (show jShP (σ103 51) (σ103 52) (σ103 53) (σ103 86) (σ103 87) (σ103 55 32).toInt by rw [show σ103 51 = σ 51 from ((f105 51 (by decide)).trans (f17 51 (by decide))), show σ103 52 = σ 52 from ((f105 52 (by decide)).trans (f17 52 (by decide))), show σ103 53 = σ 53 from ((f105 53 (by decide)).trans (f17 53 (by decide))), show σ103 86 = σ 86 from ((f105 86 (by decide)).trans (f17 86 (by decide))), show σ103 87 = σ 87 from ((f105 87 (by decide)).trans (f17 87 (by decide)))]; exact (hr0.up (by omega) (by omega))), (show jKd (σ103 39) (σ103 70) (σ103 55 32).toInt by rw [show σ103 39 = σ 39 from ((f105 39 (by decide)).trans (f17 39 (by decide))), show σ103 70 = σ 70 from ((f105 70 (by decide)).trans (f17 70 (by decide))), show (σ103 55 32).toInt = (σ 55 32).toInt from by omega]; exact hr1)⟩ hP hS (lv_sub hl [0, 1, 2, 3] rfl)
set_option maxHeartbeats 4000000 in
set_option maxRecDepth 100000 in
theorem law_case_3 {p : Program} {e : Env} {s : State} {m : MethodId} {below : List Frame} {meth : Method} {c : Code} (l : Launch) {b L : Nat} {xs : Nat → Int32} {D : va_G} {cI cL : ClassId} {ad zz : Nat → Nat} (C0 : lw_At p s m meth c b L xs) (hJ : jD ad) (hA : ∀ q, jA ad q → s.heap.size ≤ q) (hK : jK D cI cL s) (hZ : jZ zz (fun q : Nat => s.heap.size ≤ q) s s.heap) {x0 : Int32} (hx0 : 0 ≤ x0.toInt) (hxL : x0.toInt + 6 ≤ (L : Int)) (hL : L ≤ 384) {σ : Nat → Nat → Int32} {τ : Nat → Nat → Int64} {H : Heap} {locs : List Loc} (hS : va_S (fun q : Nat => s.heap.size ≤ q) s.heap H locs) {ls : Array Slot} (hAll : jAll σ τ) (hP : jH D cI cL ad σ τ H) (hl : lv_has ls 4 [(3, .int x0), (2, .ref (ad 55)), (1, .ref (ad 0)), (0, .ref b)]) (ih : ∀ (x1 : Int32) (σ : Nat → Nat → Int32) (τ : Nat → Nat → Int64) (H : Heap) (locs : List Loc) (ls : Array Slot), x1.toInt = x0.toInt + 6 → jAll σ τ → jH D cI cL ad σ τ H → va_S (fun q : Nat => s.heap.size ≤ q) s.heap H locs → lv_has ls 4 [(3, .int x1), (2, .ref (ad 55)), (1, .ref (ad 0)), (0, .ref b)] → W p l e room_1 s m #[Value.ref b] below meth c H locs 90 348600 (lw_Z below #[Value.ref b] s) (F0 m 18 ls [])) : W p l e room_1 s m #[Value.ref b] below meth c H locs 90 348600 (lw_Z below #[Value.ref b] s) (F0 m 325 ls []) := by
  obtain ⟨hx, hb, hr, hml, hown, hts0, hX, hbl, hlocks, hgv⟩ := C0
  have hts : ∀ w ∈ wsL_law, w.before #[Value.ref b] s = true := fun w h => hts0 w (wsL_law_in w h)
  have hbA : ¬ (fun q : Nat => s.heap.size ≤ q) b := Nat.not_le.mpr hbl
  have hown : s.vm.findClass RL = some m.cls := hown
  obtain ⟨hI2, hI9, hI12, hI16, hI18, hI22, hI31, hI38, hI43, hI47, hI50, hI101, hI102, hI103, hI104, hI105, hI106, hI107, hI109, hI110, hI111, hI119, hs_jKept, hs_jBook, ht0, hr0, hr1⟩ := hAll
  have hL9 : (L : Int) ≤ 384 := by omega
  obtain ⟨i1, i2, w3⟩ : (0 ≤ (σ 38 0).toInt ∧ (σ 38 0).toInt ≤ 20) ∧ (0 ≤ (σ 38 1).toInt ∧ (σ 38 1).toInt ≤ 1000) ∧ (∀ k : Nat, k < 20 → 0 ≤ (σ 39 k).toInt ∧ (σ 39 k).toInt ≤ 6) := id hI38
  obtain ⟨i4, w5, w6, w7⟩ : (0 ≤ (σ 55 32).toInt ∧ (σ 55 32).toInt ≤ 20) ∧ (∀ k : Nat, k < 20 → 0 ≤ (σ 70 k).toInt ∧ (σ 70 k).toInt ≤ 6) ∧ (∀ k : Nat, k < 20 → 0 ≤ (σ 71 k).toInt ∧ (σ 71 k).toInt ≤ 8) ∧ (∀ k : Nat, k < 160 → 0 ≤ (σ 72 k).toInt ∧ (σ 72 k).toInt ≤ 3) := id hI106
  refine lv_aload_n hx hb dL_law_325 rfl (lv_at hl 2 rfl) ?_
  refine lv_aload_n hx hb dL_law_326 rfl (lv_at hl 3 rfl) ?_
  refine lv_iload_n hx hb dL_law_327 rfl (lv_at hl 0 rfl) ?_
  refine lv_iconst (v := 1) hx hb dL_law_328 (by decide) ?_
  have g8 := jrg (rfl : x0.toInt = x0.toInt)
  refine lv_iadd hx hb dL_law_329 ?_
  refine lv_topi (fun x9 ex9 => ?_)
  have tx9 : x9.toInt = x0.toInt + 1 := (jadd ex9 rfl jz_1 (by omega) (by omega)).trans (by omega)
  refine va_sld hx hb hX hbl hbA hS (jin tx9 (by omega) (by omega)) dL_law_330 ?_
  have g10 := jrg (rfl : (xs x9.toNatClampNeg).toInt = (xs x9.toNatClampNeg).toInt)
  refine jcallV (As := [.int (xs x9.toNatClampNeg)]) (rest := []) ⟨hx, hb, hml, hown, hts⟩ hK hP hA hS hZ (c_X11_set l D cI cL ad zz hJ σ τ (xs x9.toNatClampNeg) ((xs x9.toNatClampNeg).toInt) rfl hI2) cw_RL_26 (jc_0 cI cL ad σ τ) rfl ⟨Nat.le_of_ble_eq_true rfl, Nat.le_of_ble_eq_true rfl⟩ rfl rfl rfl hl.1 rfl (Nat.le_of_ble_eq_true rfl) dL_law_331 ⟨Nat.le_of_ble_eq_true rfl, Nat.le_of_ble_eq_true rfl⟩ (fun r12 σ11 τ11 H locs h11 hP hS => ?_)
  obtain ⟨rfl, f13, f14, I15, h11⟩ := h11
  rcases h11 with h17 | h18
  · obtain ⟨q22, k19, k20, k21⟩ := h17
    refine lv_pop hx hb dL_law_334 rfl ?_
    refine lv_aload_n hx hb dL_law_335 rfl (lv_at hl 1 rfl) ?_
    refine lv_aload_n hx hb dL_law_336 rfl (lv_at hl 3 rfl) ?_
    refine lv_iload_n hx hb dL_law_337 rfl (lv_at hl 0 rfl) ?_
    refine lv_iconst (v := 1) hx hb dL_law_338 (by decide) ?_
    refine lv_iadd hx hb dL_law_339 ?_
    refine jtopr ex9.symm ?_
    refine va_sld hx hb hX hbl hbA hS (jin tx9 (by omega) (by omega)) dL_law_340 ?_
    have I23 : jI103 σ11 := jI103_fr (congrFun (f13 55 (by decide)) 9) hI103
    have z24 : (σ11 55 9).toInt = (σ 55 9).toInt := (congrArg Int32.toInt (show σ11 55 9 = (σ 55 9) from (congrFun (f13 55 (by decide)) 9)))
    refine jcallV (As := [.int (xs x9.toNatClampNeg)]) (rest := []) ⟨hx, hb, hml, hown, hts⟩ hK hP hA hS hZ (c_X12_set l D cI cL ad zz hJ σ11 τ (xs x9.toNatClampNeg) ((xs x9.toNatClampNeg).toInt) rfl I23) cw_RL_30 (jc_55 cI cL ad σ11 τ) rfl ⟨Nat.le_of_ble_eq_true rfl, Nat.le_of_ble_eq_true rfl⟩ rfl rfl rfl hl.1 rfl (Nat.le_of_ble_eq_true rfl) dL_law_341 ⟨Nat.le_of_ble_eq_true rfl, Nat.le_of_ble_eq_true rfl⟩ (fun r26 σ25 τ25 H locs h25 hP hS => ?_)
    obtain ⟨rfl, f27, f28, I29, h25⟩ := h25
    rcases h25 with h31 | h32
    · obtain ⟨q36, k33, k34, k35⟩ := h31
      refine lv_pop hx hb dL_law_344 rfl ?_
      refine lv_goto (tgt := 1357) hx hb dL_law_345 (by decide) ?_
      obtain ⟨x37, ex37⟩ : ∃ y : Int32, y = x0 + 6 := ⟨_, rfl⟩
      have tx37 : x37.toInt = x0.toInt + 6 := (jadd ex37 rfl jz_6 (by omega) (by omega)).trans (by omega)
      refine lv_iinc (v := x37) (lv' := [(3, .int x37), (2, .ref (ad 55)), (1, .ref (ad 0)), (0, .ref b)]) hx hb dL_law_1357 hl (k := 0) rfl (by rw [ex37]; rfl) (by decide) rfl (fun ls hl => ?_)
      refine lv_goto (tgt := 18) hx hb dL_law_1360 (by decide) ?_
      have I38 : jI2 σ25 := jI2_fr (congrFun (f27 2 (by decide)) 0) (congrFun (f27 2 (by decide)) 1) (congrFun (f27 2 (by decide)) 2) (congrFun (f27 2 (by decide)) 3) (f27 6 (by decide)) I15
      have I39 : jI9 σ25 := jI9_fr ((congrFun (f27 9 (by decide)) 0).trans (congrFun (f13 9 (by decide)) 0)) ((f27 10 (by decide)).trans (f13 10 (by decide))) ((f27 11 (by decide)).trans (f13 11 (by decide))) hI9
      have I40 : jI12 σ25 := jI12_fr ((congrFun (f27 12 (by decide)) 0).trans (congrFun (f13 12 (by decide)) 0)) ((f27 13 (by decide)).trans (f13 13 (by decide))) hI12
      have I41 : jI16 σ25 := jI16_fr ((congrFun (f27 16 (by decide)) 0).trans (congrFun (f13 16 (by decide)) 0)) ((congrFun (f27 16 (by decide)) 1).trans (congrFun (f13 16 (by decide)) 1)) ((congrFun (f27 16 (by decide)) 2).trans (congrFun (f13 16 (by decide)) 2)) ((f27 17 (by decide)).trans (f13 17 (by decide))) hI16
      have I42 : jI18 σ25 := jI18_fr ((congrFun (f27 18 (by decide)) 0).trans (congrFun (f13 18 (by decide)) 0)) ((f27 19 (by decide)).trans (f13 19 (by decide))) hI18
      have I43 : jI22 σ25 := jI22_fr ((congrFun (f27 22 (by decide)) 0).trans (congrFun (f13 22 (by decide)) 0)) ((f27 23 (by decide)).trans (f13 23 (by decide))) hI22
      have I44 : jI31 σ25 := jI31_fr ((congrFun (f27 31 (by decide)) 8).trans (congrFun (f13 31 (by decide)) 8)) ((f27 33 (by decide)).trans (f13 33 (by decide))) ((f27 36 (by decide)).trans (f13 36 (by decide))) hI31
      have I45 : jI38 σ25 := jI38_fr ((congrFun (f27 38 (by decide)) 0).trans (congrFun (f13 38 (by decide)) 0)) ((congrFun (f27 38 (by decide)) 1).trans (congrFun (f13 38 (by decide)) 1)) ((f27 39 (by decide)).trans (f13 39 (by decide))) hI38
      have I46 : jI43 σ25 := jI43_fr ((congrFun (f27 43 (by decide)) 8).trans (congrFun (f13 43 (by decide)) 8)) hI43
      have I47 : jI47 σ25 := jI47_fr ((congrFun (f27 47 (by decide)) 0).trans (congrFun (f13 47 (by decide)) 0)) ((f27 48 (by decide)).trans (f13 48 (by decide))) ((f27 49 (by decide)).trans (f13 49 (by decide))) hI47
      have I48 : jI50 σ25 := jI50_fr ((f27 52 (by decide)).trans (f13 52 (by decide))) hI50
      have I49 : jI101 σ25 := jI101_fr ((f28 4 (by decide)).trans (congrFun (f13 55 (by decide)) 4)) ((f28 5 (by decide)).trans (congrFun (f13 55 (by decide)) 5)) ((f27 56 (by decide)).trans (f13 56 (by decide))) ((f27 57 (by decide)).trans (f13 57 (by decide))) ((f27 58 (by decide)).trans (f13 58 (by decide))) ((f27 59 (by decide)).trans (f13 59 (by decide))) hI101
      have I50 : jI102 σ25 := jI102_fr ((f28 6 (by decide)).trans (congrFun (f13 55 (by decide)) 6)) ((f27 60 (by decide)).trans (f13 60 (by decide))) ((f27 61 (by decide)).trans (f13 61 (by decide))) hI102
      have I51 : jI104 σ25 := jI104_fr ((f28 10 (by decide)).trans (congrFun (f13 55 (by decide)) 10)) ((f28 12 (by decide)).trans (congrFun (f13 55 (by decide)) 12)) ((f28 13 (by decide)).trans (congrFun (f13 55 (by decide)) 13)) ((f27 62 (by decide)).trans (f13 62 (by decide))) ((f27 67 (by decide)).trans (f13 67 (by decide))) hI104
      have I52 : jI105 σ25 := jI105_fr ((f28 15 (by decide)).trans (congrFun (f13 55 (by decide)) 15)) ((f27 65 (by decide)).trans (f13 65 (by decide))) hI105
      have I53 : jI106 σ25 := jI106_fr ((f28 32 (by decide)).trans (congrFun (f13 55 (by decide)) 32)) ((f27 70 (by decide)).trans (f13 70 (by decide))) ((f27 71 (by decide)).trans (f13 71 (by decide))) ((f27 72 (by decide)).trans (f13 72 (by decide))) hI106
      have I54 : jI107 σ25 := jI107_fr ((f28 12 (by decide)).trans (congrFun (f13 55 (by decide)) 12)) ((f28 47 (by decide)).trans (congrFun (f13 55 (by decide)) 47)) ((f27 80 (by decide)).trans (f13 80 (by decide))) hI107
      have I55 : jI109 σ25 := jI109_fr ((f28 50 (by decide)).trans (congrFun (f13 55 (by decide)) 50)) hI109
      have I56 : jI110 σ25 := jI110_fr ((f27 86 (by decide)).trans (f13 86 (by decide))) ((f27 87 (by decide)).trans (f13 87 (by decide))) hI110
      have I57 : jI111 σ25 := jI111_fr ((f27 79 (by decide)).trans (f13 79 (by decide))) hI111
      have I58 : jI119 σ25 := jI119_fr ((f27 68 (by decide)).trans (f13 68 (by decide))) hI119
      have p59 : jKept σ25 := jKept.fr ((f27 75 (by decide)).trans (f13 75 (by decide))) ((f27 76 (by decide)).trans (f13 76 (by decide))) ((f27 77 (by decide)).trans (f13 77 (by decide))) hs_jKept
      have p60 : jBook σ25 := jBook.fr ((f28 47 (by decide)).trans (congrFun (f13 55 (by decide)) 47)) ((f28 10 (by decide)).trans (congrFun (f13 55 (by decide)) 10)) ((f27 81 (by decide)).trans (f13 81 (by decide))) hs_jBook
      have z61 : (σ25 38 0).toInt = (σ 38 0).toInt := (congrArg Int32.toInt (show σ25 38 0 = (σ 38 0) from ((congrFun (f27 38 (by decide)) 0).trans (congrFun (f13 38 (by decide)) 0))))
      have z62 : (σ25 55 32).toInt = (σ 55 32).toInt := (congrArg Int32.toInt (show σ25 55 32 = (σ 55 32) from ((f28 32 (by decide)).trans (congrFun (f13 55 (by decide)) 32))))
      exact ih x37 σ25 τ _ _ ls (by have h9 := tx37; omega) ⟨I38, I39, I40, I41, I42, I43, I44, I45, I46, I47, I48, I49, I50, I29, I51, I52, I53, I54, I55, I56, I57, I58, p59, p60, (by omega), (show jShP (σ25 51) (σ25 52) (σ25 53) (σ25 86) (σ25 87) (σ25 55 32).toInt by rw [show σ25 51 = σ 51 from ((f27 51 (by decide)).trans (f13 51 (by decide))), show σ25 52 = σ 52 from ((f27 52 (by decide)).trans (f13 52 (by decide))), show σ25 53 = σ 53 from ((f27 53 (by decide)).trans (f13 53 (by decide))), show σ25 86 = σ 86 from ((f27 86 (by decide)).trans (f13 86 (by decide))), show σ25 87 = σ 87 from ((f27 87 (by decide)).trans (f13 87 (by decide)))]; exact (hr0.up (by omega) (by omega))), (show jKd (σ25 39) (σ25 70) (σ25 55 32).toInt by rw [show σ25 39 = σ 39 from ((f27 39 (by decide)).trans (f13 39 (by decide))), show σ25 70 = σ 70 from ((f27 70 (by decide)).trans (f13 70 (by decide))), show (σ25 55 32).toInt = (σ 55 32).toInt from by omega]; exact hr1)⟩ hP hS (lv_sub hl [0, 1, 2, 3] rfl)
    · obtain ⟨q65, k63, k64⟩ := h32
      exact absurd (by omega : False) id
  · obtain ⟨q68, k66, k67⟩ := h18
    have q68 := q68.symm
    subst q68
    refine lv_pop hx hb dL_law_334 rfl ?_
    refine lv_aload_n hx hb dL_law_335 rfl (lv_at hl 1 rfl) ?_
    refine lv_aload_n hx hb dL_law_336 rfl (lv_at hl 3 rfl) ?_
    refine lv_iload_n hx hb dL_law_337 rfl (lv_at hl 0 rfl) ?_
    refine lv_iconst (v := 1) hx hb dL_law_338 (by decide) ?_
    refine lv_iadd hx hb dL_law_339 ?_
    refine jtopr ex9.symm ?_
    refine va_sld hx hb hX hbl hbA hS (jin tx9 (by omega) (by omega)) dL_law_340 ?_
    have I69 : jI103 σ11 := jI103_fr (congrFun (f13 55 (by decide)) 9) hI103
    have z70 : (σ11 55 9).toInt = (σ 55 9).toInt := (congrArg Int32.toInt (show σ11 55 9 = (σ 55 9) from (congrFun (f13 55 (by decide)) 9)))
    refine jcallV (As := [.int (xs x9.toNatClampNeg)]) (rest := []) ⟨hx, hb, hml, hown, hts⟩ hK hP hA hS hZ (c_X12_set l D cI cL ad zz hJ σ11 τ (xs x9.toNatClampNeg) ((xs x9.toNatClampNeg).toInt) rfl I69) cw_RL_30 (jc_55 cI cL ad σ11 τ) rfl ⟨Nat.le_of_ble_eq_true rfl, Nat.le_of_ble_eq_true rfl⟩ rfl rfl rfl hl.1 rfl (Nat.le_of_ble_eq_true rfl) dL_law_341 ⟨Nat.le_of_ble_eq_true rfl, Nat.le_of_ble_eq_true rfl⟩ (fun r72 σ71 τ71 H locs h71 hP hS => ?_)
    obtain ⟨rfl, f73, f74, I75, h71⟩ := h71
    rcases h71 with h77 | h78
    · obtain ⟨q82, k79, k80, k81⟩ := h77
      exact absurd (by omega : False) id
    · obtain ⟨q85, k83, k84⟩ := h78
      have q85 := q85.symm
      subst q85
      refine lv_pop hx hb dL_law_344 rfl ?_
      refine lv_goto (tgt := 1357) hx hb dL_law_345 (by decide) ?_
      obtain ⟨x86, ex86⟩ : ∃ y : Int32, y = x0 + 6 := ⟨_, rfl⟩
      have tx86 : x86.toInt = x0.toInt + 6 := (jadd ex86 rfl jz_6 (by omega) (by omega)).trans (by omega)
      refine lv_iinc (v := x86) (lv' := [(3, .int x86), (2, .ref (ad 55)), (1, .ref (ad 0)), (0, .ref b)]) hx hb dL_law_1357 hl (k := 0) rfl (by rw [ex86]; rfl) (by decide) rfl (fun ls hl => ?_)
      refine lv_goto (tgt := 18) hx hb dL_law_1360 (by decide) ?_
      have I87 : jI2 σ71 := jI2_fr (congrFun (f73 2 (by decide)) 0) (congrFun (f73 2 (by decide)) 1) (congrFun (f73 2 (by decide)) 2) (congrFun (f73 2 (by decide)) 3) (f73 6 (by decide)) I15
      have I88 : jI9 σ71 := jI9_fr ((congrFun (f73 9 (by decide)) 0).trans (congrFun (f13 9 (by decide)) 0)) ((f73 10 (by decide)).trans (f13 10 (by decide))) ((f73 11 (by decide)).trans (f13 11 (by decide))) hI9
      have I89 : jI12 σ71 := jI12_fr ((congrFun (f73 12 (by decide)) 0).trans (congrFun (f13 12 (by decide)) 0)) ((f73 13 (by decide)).trans (f13 13 (by decide))) hI12
      have I90 : jI16 σ71 := jI16_fr ((congrFun (f73 16 (by decide)) 0).trans (congrFun (f13 16 (by decide)) 0)) ((congrFun (f73 16 (by decide)) 1).trans (congrFun (f13 16 (by decide)) 1)) ((congrFun (f73 16 (by decide)) 2).trans (congrFun (f13 16 (by decide)) 2)) ((f73 17 (by decide)).trans (f13 17 (by decide))) hI16
      have I91 : jI18 σ71 := jI18_fr ((congrFun (f73 18 (by decide)) 0).trans (congrFun (f13 18 (by decide)) 0)) ((f73 19 (by decide)).trans (f13 19 (by decide))) hI18
      have I92 : jI22 σ71 := jI22_fr ((congrFun (f73 22 (by decide)) 0).trans (congrFun (f13 22 (by decide)) 0)) ((f73 23 (by decide)).trans (f13 23 (by decide))) hI22
      have I93 : jI31 σ71 := jI31_fr ((congrFun (f73 31 (by decide)) 8).trans (congrFun (f13 31 (by decide)) 8)) ((f73 33 (by decide)).trans (f13 33 (by decide))) ((f73 36 (by decide)).trans (f13 36 (by decide))) hI31
      have I94 : jI38 σ71 := jI38_fr ((congrFun (f73 38 (by decide)) 0).trans (congrFun (f13 38 (by decide)) 0)) ((congrFun (f73 38 (by decide)) 1).trans (congrFun (f13 38 (by decide)) 1)) ((f73 39 (by decide)).trans (f13 39 (by decide))) hI38
      have I95 : jI43 σ71 := jI43_fr ((congrFun (f73 43 (by decide)) 8).trans (congrFun (f13 43 (by decide)) 8)) hI43
      have I96 : jI47 σ71 := jI47_fr ((congrFun (f73 47 (by decide)) 0).trans (congrFun (f13 47 (by decide)) 0)) ((f73 48 (by decide)).trans (f13 48 (by decide))) ((f73 49 (by decide)).trans (f13 49 (by decide))) hI47
      have I97 : jI50 σ71 := jI50_fr ((f73 52 (by decide)).trans (f13 52 (by decide))) hI50
      have I98 : jI101 σ71 := jI101_fr ((f74 4 (by decide)).trans (congrFun (f13 55 (by decide)) 4)) ((f74 5 (by decide)).trans (congrFun (f13 55 (by decide)) 5)) ((f73 56 (by decide)).trans (f13 56 (by decide))) ((f73 57 (by decide)).trans (f13 57 (by decide))) ((f73 58 (by decide)).trans (f13 58 (by decide))) ((f73 59 (by decide)).trans (f13 59 (by decide))) hI101
      have I99 : jI102 σ71 := jI102_fr ((f74 6 (by decide)).trans (congrFun (f13 55 (by decide)) 6)) ((f73 60 (by decide)).trans (f13 60 (by decide))) ((f73 61 (by decide)).trans (f13 61 (by decide))) hI102
      have I100 : jI104 σ71 := jI104_fr ((f74 10 (by decide)).trans (congrFun (f13 55 (by decide)) 10)) ((f74 12 (by decide)).trans (congrFun (f13 55 (by decide)) 12)) ((f74 13 (by decide)).trans (congrFun (f13 55 (by decide)) 13)) ((f73 62 (by decide)).trans (f13 62 (by decide))) ((f73 67 (by decide)).trans (f13 67 (by decide))) hI104
      have I101 : jI105 σ71 := jI105_fr ((f74 15 (by decide)).trans (congrFun (f13 55 (by decide)) 15)) ((f73 65 (by decide)).trans (f13 65 (by decide))) hI105
      have I102 : jI106 σ71 := jI106_fr ((f74 32 (by decide)).trans (congrFun (f13 55 (by decide)) 32)) ((f73 70 (by decide)).trans (f13 70 (by decide))) ((f73 71 (by decide)).trans (f13 71 (by decide))) ((f73 72 (by decide)).trans (f13 72 (by decide))) hI106
      have I103 : jI107 σ71 := jI107_fr ((f74 12 (by decide)).trans (congrFun (f13 55 (by decide)) 12)) ((f74 47 (by decide)).trans (congrFun (f13 55 (by decide)) 47)) ((f73 80 (by decide)).trans (f13 80 (by decide))) hI107
      have I104 : jI109 σ71 := jI109_fr ((f74 50 (by decide)).trans (congrFun (f13 55 (by decide)) 50)) hI109
      have I105 : jI110 σ71 := jI110_fr ((f73 86 (by decide)).trans (f13 86 (by decide))) ((f73 87 (by decide)).trans (f13 87 (by decide))) hI110
      have I106 : jI111 σ71 := jI111_fr ((f73 79 (by decide)).trans (f13 79 (by decide))) hI111
      have I107 : jI119 σ71 := jI119_fr ((f73 68 (by decide)).trans (f13 68 (by decide))) hI119
      have p108 : jKept σ71 := jKept.fr ((f73 75 (by decide)).trans (f13 75 (by decide))) ((f73 76 (by decide)).trans (f13 76 (by decide))) ((f73 77 (by decide)).trans (f13 77 (by decide))) hs_jKept
      have p109 : jBook σ71 := jBook.fr ((f74 47 (by decide)).trans (congrFun (f13 55 (by decide)) 47)) ((f74 10 (by decide)).trans (congrFun (f13 55 (by decide)) 10)) ((f73 81 (by decide)).trans (f13 81 (by decide))) hs_jBook
      have z110 : (σ71 38 0).toInt = (σ 38 0).toInt := (congrArg Int32.toInt (show σ71 38 0 = (σ 38 0) from ((congrFun (f73 38 (by decide)) 0).trans (congrFun (f13 38 (by decide)) 0))))
      have z111 : (σ71 55 32).toInt = (σ 55 32).toInt := (congrArg Int32.toInt (show σ71 55 32 = (σ 55 32) from ((f74 32 (by decide)).trans (congrFun (f13 55 (by decide)) 32))))
      exact ih x86 σ71 τ _ _ ls (by have h9 := tx86; omega) ⟨I87, I88, I89, I90, I91, I92, I93, I94, I95, I96, I97, I98, I99, I75, I100, I101, I102, I103, I104, I105, I106, I107, p108, p109, (by omega), (show jShP (σ71 51) (σ71 52) (σ71 53) (σ71 86) (σ71 87) (σ71 55 32).toInt by rw [show σ71 51 = σ 51 from ((f73 51 (by decide)).trans (f13 51 (by decide))), show σ71 52 = σ 52 from ((f73 52 (by decide)).trans (f13 52 (by decide))), show σ71 53 = σ 53 from ((f73 53 (by decide)).trans (f13 53 (by decide))), show σ71 86 = σ 86 from ((f73 86 (by decide)).trans (f13 86 (by decide))), show σ71 87 = σ 87 from ((f73 87 (by decide)).trans (f13 87 (by decide)))]; exact (hr0.up (by omega) (by omega))), (show jKd (σ71 39) (σ71 70) (σ71 55 32).toInt by rw [show σ71 39 = σ 39 from ((f73 39 (by decide)).trans (f13 39 (by decide))), show σ71 70 = σ 70 from ((f73 70 (by decide)).trans (f13 70 (by decide))), show (σ71 55 32).toInt = (σ 55 32).toInt from by omega]; exact hr1)⟩ hP hS (lv_sub hl [0, 1, 2, 3] rfl)
set_option maxHeartbeats 4000000 in
set_option maxRecDepth 100000 in
theorem law_case_4 {p : Program} {e : Env} {s : State} {m : MethodId} {below : List Frame} {meth : Method} {c : Code} (l : Launch) {b L : Nat} {xs : Nat → Int32} {D : va_G} {cI cL : ClassId} {ad zz : Nat → Nat} (C0 : lw_At p s m meth c b L xs) (hJ : jD ad) (hA : ∀ q, jA ad q → s.heap.size ≤ q) (hK : jK D cI cL s) (hZ : jZ zz (fun q : Nat => s.heap.size ≤ q) s s.heap) {x0 : Int32} (hx0 : 0 ≤ x0.toInt) (hxL : x0.toInt + 6 ≤ (L : Int)) (hL : L ≤ 384) {σ : Nat → Nat → Int32} {τ : Nat → Nat → Int64} {H : Heap} {locs : List Loc} (hS : va_S (fun q : Nat => s.heap.size ≤ q) s.heap H locs) {ls : Array Slot} (hAll : jAll σ τ) (hP : jH D cI cL ad σ τ H) (hl : lv_has ls 4 [(3, .int x0), (2, .ref (ad 55)), (1, .ref (ad 0)), (0, .ref b)]) (ih : ∀ (x1 : Int32) (σ : Nat → Nat → Int32) (τ : Nat → Nat → Int64) (H : Heap) (locs : List Loc) (ls : Array Slot), x1.toInt = x0.toInt + 6 → jAll σ τ → jH D cI cL ad σ τ H → va_S (fun q : Nat => s.heap.size ≤ q) s.heap H locs → lv_has ls 4 [(3, .int x1), (2, .ref (ad 55)), (1, .ref (ad 0)), (0, .ref b)] → W p l e room_1 s m #[Value.ref b] below meth c H locs 90 348600 (lw_Z below #[Value.ref b] s) (F0 m 18 ls [])) : W p l e room_1 s m #[Value.ref b] below meth c H locs 90 348600 (lw_Z below #[Value.ref b] s) (F0 m 348 ls []) := by
  obtain ⟨hx, hb, hr, hml, hown, hts0, hX, hbl, hlocks, hgv⟩ := C0
  have hts : ∀ w ∈ wsL_law, w.before #[Value.ref b] s = true := fun w h => hts0 w (wsL_law_in w h)
  have hbA : ¬ (fun q : Nat => s.heap.size ≤ q) b := Nat.not_le.mpr hbl
  have hown : s.vm.findClass RL = some m.cls := hown
  obtain ⟨hI2, hI9, hI12, hI16, hI18, hI22, hI31, hI38, hI43, hI47, hI50, hI101, hI102, hI103, hI104, hI105, hI106, hI107, hI109, hI110, hI111, hI119, hs_jKept, hs_jBook, ht0, hr0, hr1⟩ := hAll
  have hL9 : (L : Int) ≤ 384 := by omega
  obtain ⟨i1, i2, w3⟩ : (0 ≤ (σ 38 0).toInt ∧ (σ 38 0).toInt ≤ 20) ∧ (0 ≤ (σ 38 1).toInt ∧ (σ 38 1).toInt ≤ 1000) ∧ (∀ k : Nat, k < 20 → 0 ≤ (σ 39 k).toInt ∧ (σ 39 k).toInt ≤ 6) := id hI38
  obtain ⟨i4, w5, w6, w7⟩ : (0 ≤ (σ 55 32).toInt ∧ (σ 55 32).toInt ≤ 20) ∧ (∀ k : Nat, k < 20 → 0 ≤ (σ 70 k).toInt ∧ (σ 70 k).toInt ≤ 6) ∧ (∀ k : Nat, k < 20 → 0 ≤ (σ 71 k).toInt ∧ (σ 71 k).toInt ≤ 8) ∧ (∀ k : Nat, k < 160 → 0 ≤ (σ 72 k).toInt ∧ (σ 72 k).toInt ≤ 3) := id hI106
  refine lv_aload_n hx hb dL_law_348 rfl (lv_at hl 2 rfl) ?_
  refine lv_aload_n hx hb dL_law_349 rfl (lv_at hl 3 rfl) ?_
  refine lv_iload_n hx hb dL_law_350 rfl (lv_at hl 0 rfl) ?_
  refine lv_iconst (v := 1) hx hb dL_law_351 (by decide) ?_
  have g8 := jrg (rfl : x0.toInt = x0.toInt)
  refine lv_iadd hx hb dL_law_352 ?_
  refine lv_topi (fun x9 ex9 => ?_)
  have tx9 : x9.toInt = x0.toInt + 1 := (jadd ex9 rfl jz_1 (by omega) (by omega)).trans (by omega)
  refine va_sld hx hb hX hbl hbA hS (jin tx9 (by omega) (by omega)) dL_law_353 ?_
  have g10 := jrg (rfl : (xs x9.toNatClampNeg).toInt = (xs x9.toNatClampNeg).toInt)
  refine lv_aload_n hx hb dL_law_354 rfl (lv_at hl 3 rfl) ?_
  refine lv_iload_n hx hb dL_law_355 rfl (lv_at hl 0 rfl) ?_
  refine lv_iconst (v := 2) hx hb dL_law_356 (by decide) ?_
  refine lv_iadd hx hb dL_law_357 ?_
  refine lv_topi (fun x11 ex11 => ?_)
  have tx11 : x11.toInt = x0.toInt + 2 := (jadd ex11 rfl jz_2 (by omega) (by omega)).trans (by omega)
  refine va_sld hx hb hX hbl hbA hS (jin tx11 (by omega) (by omega)) dL_law_358 ?_
  have g12 := jrg (rfl : (xs x11.toNatClampNeg).toInt = (xs x11.toNatClampNeg).toInt)
  refine jcallV (As := [.int (xs x9.toNatClampNeg), .int (xs x11.toNatClampNeg)]) (rest := []) ⟨hx, hb, hml, hown, hts⟩ hK hP hA hS hZ (c_X11_feed l D cI cL ad zz hJ σ τ (xs x9.toNatClampNeg) ((xs x9.toNatClampNeg).toInt) rfl (xs x11.toNatClampNeg) ((xs x11.toNatClampNeg).toInt) rfl hI9) cw_RL_31 (jc_0 cI cL ad σ τ) rfl ⟨Nat.le_of_ble_eq_true rfl, Nat.le_of_ble_eq_true rfl⟩ rfl rfl rfl hl.1 rfl (Nat.le_of_ble_eq_true rfl) dL_law_359 ⟨Nat.le_of_ble_eq_true rfl, Nat.le_of_ble_eq_true rfl⟩ (fun r14 σ13 τ13 H locs h13 hP hS => ?_)
  obtain ⟨rfl, f15, f16, I17, h13⟩ := h13
  rcases h13 with h19 | h20 | h21
  · obtain ⟨q25, k22, k23, k24⟩ := h19
    have q25 := q25.symm
    subst q25
    refine lv_pop hx hb dL_law_362 rfl ?_
    refine lv_aload_n hx hb dL_law_363 rfl (lv_at hl 1 rfl) ?_
    refine lv_aload_n hx hb dL_law_364 rfl (lv_at hl 3 rfl) ?_
    refine lv_iload_n hx hb dL_law_365 rfl (lv_at hl 0 rfl) ?_
    refine lv_iconst (v := 1) hx hb dL_law_366 (by decide) ?_
    refine lv_iadd hx hb dL_law_367 ?_
    refine jtopr ex9.symm ?_
    refine va_sld hx hb hX hbl hbA hS (jin tx9 (by omega) (by omega)) dL_law_368 ?_
    refine lv_aload_n hx hb dL_law_369 rfl (lv_at hl 3 rfl) ?_
    refine lv_iload_n hx hb dL_law_370 rfl (lv_at hl 0 rfl) ?_
    refine lv_iconst (v := 2) hx hb dL_law_371 (by decide) ?_
    refine lv_iadd hx hb dL_law_372 ?_
    refine jtopr ex11.symm ?_
    refine va_sld hx hb hX hbl hbA hS (jin tx11 (by omega) (by omega)) dL_law_373 ?_
    have I26 : jI105 σ13 := jI105_fr (congrFun (f15 55 (by decide)) 15) (f15 65 (by decide)) hI105
    have z27 : (σ13 55 15).toInt = (σ 55 15).toInt := (congrArg Int32.toInt (show σ13 55 15 = (σ 55 15) from (congrFun (f15 55 (by decide)) 15)))
    refine jcallV (As := [.int (xs x9.toNatClampNeg), .int (xs x11.toNatClampNeg)]) (rest := []) ⟨hx, hb, hml, hown, hts⟩ hK hP hA hS hZ (c_X12_feed l D cI cL ad zz hJ σ13 τ (xs x9.toNatClampNeg) ((xs x9.toNatClampNeg).toInt) rfl (xs x11.toNatClampNeg) ((xs x11.toNatClampNeg).toInt) rfl I26) cw_RL_35 (jc_55 cI cL ad σ13 τ) rfl ⟨Nat.le_of_ble_eq_true rfl, Nat.le_of_ble_eq_true rfl⟩ rfl rfl rfl hl.1 rfl (Nat.le_of_ble_eq_true rfl) dL_law_374 ⟨Nat.le_of_ble_eq_true rfl, Nat.le_of_ble_eq_true rfl⟩ (fun r29 σ28 τ28 H locs h28 hP hS => ?_)
    obtain ⟨rfl, f30, f31, I32, h28⟩ := h28
    rcases h28 with h34 | h35 | h36
    · obtain ⟨q40, k37, k38, k39⟩ := h34
      have q40 := q40.symm
      subst q40
      refine lv_pop hx hb dL_law_377 rfl ?_
      refine lv_goto (tgt := 1357) hx hb dL_law_378 (by decide) ?_
      obtain ⟨x41, ex41⟩ : ∃ y : Int32, y = x0 + 6 := ⟨_, rfl⟩
      have tx41 : x41.toInt = x0.toInt + 6 := (jadd ex41 rfl jz_6 (by omega) (by omega)).trans (by omega)
      refine lv_iinc (v := x41) (lv' := [(3, .int x41), (2, .ref (ad 55)), (1, .ref (ad 0)), (0, .ref b)]) hx hb dL_law_1357 hl (k := 0) rfl (by rw [ex41]; rfl) (by decide) rfl (fun ls hl => ?_)
      refine lv_goto (tgt := 18) hx hb dL_law_1360 (by decide) ?_
      have I42 : jI2 σ28 := jI2_fr ((congrFun (f30 2 (by decide)) 0).trans (congrFun (f15 2 (by decide)) 0)) ((congrFun (f30 2 (by decide)) 1).trans (congrFun (f15 2 (by decide)) 1)) ((congrFun (f30 2 (by decide)) 2).trans (congrFun (f15 2 (by decide)) 2)) ((congrFun (f30 2 (by decide)) 3).trans (congrFun (f15 2 (by decide)) 3)) ((f30 6 (by decide)).trans (f15 6 (by decide))) hI2
      have I43 : jI9 σ28 := jI9_fr (congrFun (f30 9 (by decide)) 0) (f30 10 (by decide)) (f30 11 (by decide)) I17
      have I44 : jI12 σ28 := jI12_fr ((congrFun (f30 12 (by decide)) 0).trans (congrFun (f15 12 (by decide)) 0)) ((f30 13 (by decide)).trans (f15 13 (by decide))) hI12
      have I45 : jI16 σ28 := jI16_fr ((congrFun (f30 16 (by decide)) 0).trans (congrFun (f15 16 (by decide)) 0)) ((congrFun (f30 16 (by decide)) 1).trans (congrFun (f15 16 (by decide)) 1)) ((congrFun (f30 16 (by decide)) 2).trans (congrFun (f15 16 (by decide)) 2)) ((f30 17 (by decide)).trans (f15 17 (by decide))) hI16
      have I46 : jI18 σ28 := jI18_fr ((congrFun (f30 18 (by decide)) 0).trans (congrFun (f15 18 (by decide)) 0)) ((f30 19 (by decide)).trans (f15 19 (by decide))) hI18
      have I47 : jI22 σ28 := jI22_fr ((congrFun (f30 22 (by decide)) 0).trans (congrFun (f15 22 (by decide)) 0)) ((f30 23 (by decide)).trans (f15 23 (by decide))) hI22
      have I48 : jI31 σ28 := jI31_fr ((congrFun (f30 31 (by decide)) 8).trans (congrFun (f15 31 (by decide)) 8)) ((f30 33 (by decide)).trans (f15 33 (by decide))) ((f30 36 (by decide)).trans (f15 36 (by decide))) hI31
      have I49 : jI38 σ28 := jI38_fr ((congrFun (f30 38 (by decide)) 0).trans (congrFun (f15 38 (by decide)) 0)) ((congrFun (f30 38 (by decide)) 1).trans (congrFun (f15 38 (by decide)) 1)) ((f30 39 (by decide)).trans (f15 39 (by decide))) hI38
      have I50 : jI43 σ28 := jI43_fr ((congrFun (f30 43 (by decide)) 8).trans (congrFun (f15 43 (by decide)) 8)) hI43
      have I51 : jI47 σ28 := jI47_fr ((congrFun (f30 47 (by decide)) 0).trans (congrFun (f15 47 (by decide)) 0)) ((f30 48 (by decide)).trans (f15 48 (by decide))) ((f30 49 (by decide)).trans (f15 49 (by decide))) hI47
      have I52 : jI50 σ28 := jI50_fr ((f30 52 (by decide)).trans (f15 52 (by decide))) hI50
      have I53 : jI101 σ28 := jI101_fr ((f31 4 (by decide)).trans (congrFun (f15 55 (by decide)) 4)) ((f31 5 (by decide)).trans (congrFun (f15 55 (by decide)) 5)) ((f30 56 (by decide)).trans (f15 56 (by decide))) ((f30 57 (by decide)).trans (f15 57 (by decide))) ((f30 58 (by decide)).trans (f15 58 (by decide))) ((f30 59 (by decide)).trans (f15 59 (by decide))) hI101
      have I54 : jI102 σ28 := jI102_fr ((f31 6 (by decide)).trans (congrFun (f15 55 (by decide)) 6)) ((f30 60 (by decide)).trans (f15 60 (by decide))) ((f30 61 (by decide)).trans (f15 61 (by decide))) hI102
      have I55 : jI103 σ28 := jI103_fr ((f31 9 (by decide)).trans (congrFun (f15 55 (by decide)) 9)) hI103
      have I56 : jI104 σ28 := jI104_fr ((f31 10 (by decide)).trans (congrFun (f15 55 (by decide)) 10)) ((f31 12 (by decide)).trans (congrFun (f15 55 (by decide)) 12)) ((f31 13 (by decide)).trans (congrFun (f15 55 (by decide)) 13)) ((f30 62 (by decide)).trans (f15 62 (by decide))) ((f30 67 (by decide)).trans (f15 67 (by decide))) hI104
      have I57 : jI106 σ28 := jI106_fr ((f31 32 (by decide)).trans (congrFun (f15 55 (by decide)) 32)) ((f30 70 (by decide)).trans (f15 70 (by decide))) ((f30 71 (by decide)).trans (f15 71 (by decide))) ((f30 72 (by decide)).trans (f15 72 (by decide))) hI106
      have I58 : jI107 σ28 := jI107_fr ((f31 12 (by decide)).trans (congrFun (f15 55 (by decide)) 12)) ((f31 47 (by decide)).trans (congrFun (f15 55 (by decide)) 47)) ((f30 80 (by decide)).trans (f15 80 (by decide))) hI107
      have I59 : jI109 σ28 := jI109_fr ((f31 50 (by decide)).trans (congrFun (f15 55 (by decide)) 50)) hI109
      have I60 : jI110 σ28 := jI110_fr ((f30 86 (by decide)).trans (f15 86 (by decide))) ((f30 87 (by decide)).trans (f15 87 (by decide))) hI110
      have I61 : jI111 σ28 := jI111_fr ((f30 79 (by decide)).trans (f15 79 (by decide))) hI111
      have I62 : jI119 σ28 := jI119_fr ((f30 68 (by decide)).trans (f15 68 (by decide))) hI119
      have p63 : jKept σ28 := jKept.fr ((f30 75 (by decide)).trans (f15 75 (by decide))) ((f30 76 (by decide)).trans (f15 76 (by decide))) ((f30 77 (by decide)).trans (f15 77 (by decide))) hs_jKept
      have p64 : jBook σ28 := jBook.fr ((f31 47 (by decide)).trans (congrFun (f15 55 (by decide)) 47)) ((f31 10 (by decide)).trans (congrFun (f15 55 (by decide)) 10)) ((f30 81 (by decide)).trans (f15 81 (by decide))) hs_jBook
      have z65 : (σ28 38 0).toInt = (σ 38 0).toInt := (congrArg Int32.toInt (show σ28 38 0 = (σ 38 0) from ((congrFun (f30 38 (by decide)) 0).trans (congrFun (f15 38 (by decide)) 0))))
      have z66 : (σ28 55 32).toInt = (σ 55 32).toInt := (congrArg Int32.toInt (show σ28 55 32 = (σ 55 32) from ((f31 32 (by decide)).trans (congrFun (f15 55 (by decide)) 32))))
      exact ih x41 σ28 τ _ _ ls (by have h9 := tx41; omega) ⟨I42, I43, I44, I45, I46, I47, I48, I49, I50, I51, I52, I53, I54, I55, I56, I32, I57, I58, I59, I60, I61, I62, p63, p64, (by omega), (show jShP (σ28 51) (σ28 52) (σ28 53) (σ28 86) (σ28 87) (σ28 55 32).toInt by rw [show σ28 51 = σ 51 from ((f30 51 (by decide)).trans (f15 51 (by decide))), show σ28 52 = σ 52 from ((f30 52 (by decide)).trans (f15 52 (by decide))), show σ28 53 = σ 53 from ((f30 53 (by decide)).trans (f15 53 (by decide))), show σ28 86 = σ 86 from ((f30 86 (by decide)).trans (f15 86 (by decide))), show σ28 87 = σ 87 from ((f30 87 (by decide)).trans (f15 87 (by decide)))]; exact (hr0.up (by omega) (by omega))), (show jKd (σ28 39) (σ28 70) (σ28 55 32).toInt by rw [show σ28 39 = σ 39 from ((f30 39 (by decide)).trans (f15 39 (by decide))), show σ28 70 = σ 70 from ((f30 70 (by decide)).trans (f15 70 (by decide))), show (σ28 55 32).toInt = (σ 55 32).toInt from by omega]; exact hr1)⟩ hP hS (lv_sub hl [0, 1, 2, 3] rfl)
    · obtain ⟨q71, k67, k68, k69, k70⟩ := h35
      exact absurd (by omega : False) id
    · obtain ⟨q77, k72, k73, k74, k75, k76⟩ := h36
      exact absurd (by omega : False) id
  · obtain ⟨q82, k78, k79, k80, k81⟩ := h20
    have q82 := q82.symm
    subst q82
    refine lv_pop hx hb dL_law_362 rfl ?_
    refine lv_aload_n hx hb dL_law_363 rfl (lv_at hl 1 rfl) ?_
    refine lv_aload_n hx hb dL_law_364 rfl (lv_at hl 3 rfl) ?_
    refine lv_iload_n hx hb dL_law_365 rfl (lv_at hl 0 rfl) ?_
    refine lv_iconst (v := 1) hx hb dL_law_366 (by decide) ?_
    refine lv_iadd hx hb dL_law_367 ?_
    refine jtopr ex9.symm ?_
    refine va_sld hx hb hX hbl hbA hS (jin tx9 (by omega) (by omega)) dL_law_368 ?_
    refine lv_aload_n hx hb dL_law_369 rfl (lv_at hl 3 rfl) ?_
    refine lv_iload_n hx hb dL_law_370 rfl (lv_at hl 0 rfl) ?_
    refine lv_iconst (v := 2) hx hb dL_law_371 (by decide) ?_
    refine lv_iadd hx hb dL_law_372 ?_
    refine jtopr ex11.symm ?_
    refine va_sld hx hb hX hbl hbA hS (jin tx11 (by omega) (by omega)) dL_law_373 ?_
    have I83 : jI105 σ13 := jI105_fr (congrFun (f15 55 (by decide)) 15) (f15 65 (by decide)) hI105
    have z84 : (σ13 55 15).toInt = (σ 55 15).toInt := (congrArg Int32.toInt (show σ13 55 15 = (σ 55 15) from (congrFun (f15 55 (by decide)) 15)))
    refine jcallV (As := [.int (xs x9.toNatClampNeg), .int (xs x11.toNatClampNeg)]) (rest := []) ⟨hx, hb, hml, hown, hts⟩ hK hP hA hS hZ (c_X12_feed l D cI cL ad zz hJ σ13 τ (xs x9.toNatClampNeg) ((xs x9.toNatClampNeg).toInt) rfl (xs x11.toNatClampNeg) ((xs x11.toNatClampNeg).toInt) rfl I83) cw_RL_35 (jc_55 cI cL ad σ13 τ) rfl ⟨Nat.le_of_ble_eq_true rfl, Nat.le_of_ble_eq_true rfl⟩ rfl rfl rfl hl.1 rfl (Nat.le_of_ble_eq_true rfl) dL_law_374 ⟨Nat.le_of_ble_eq_true rfl, Nat.le_of_ble_eq_true rfl⟩ (fun r86 σ85 τ85 H locs h85 hP hS => ?_)
    obtain ⟨rfl, f87, f88, I89, h85⟩ := h85
    rcases h85 with h91 | h92 | h93
    · obtain ⟨q97, k94, k95, k96⟩ := h91
      exact absurd (by omega : False) id
    · obtain ⟨q102, k98, k99, k100, k101⟩ := h92
      have q102 := q102.symm
      subst q102
      refine lv_pop hx hb dL_law_377 rfl ?_
      refine lv_goto (tgt := 1357) hx hb dL_law_378 (by decide) ?_
      obtain ⟨x103, ex103⟩ : ∃ y : Int32, y = x0 + 6 := ⟨_, rfl⟩
      have tx103 : x103.toInt = x0.toInt + 6 := (jadd ex103 rfl jz_6 (by omega) (by omega)).trans (by omega)
      refine lv_iinc (v := x103) (lv' := [(3, .int x103), (2, .ref (ad 55)), (1, .ref (ad 0)), (0, .ref b)]) hx hb dL_law_1357 hl (k := 0) rfl (by rw [ex103]; rfl) (by decide) rfl (fun ls hl => ?_)
      refine lv_goto (tgt := 18) hx hb dL_law_1360 (by decide) ?_
      have I104 : jI2 σ85 := jI2_fr ((congrFun (f87 2 (by decide)) 0).trans (congrFun (f15 2 (by decide)) 0)) ((congrFun (f87 2 (by decide)) 1).trans (congrFun (f15 2 (by decide)) 1)) ((congrFun (f87 2 (by decide)) 2).trans (congrFun (f15 2 (by decide)) 2)) ((congrFun (f87 2 (by decide)) 3).trans (congrFun (f15 2 (by decide)) 3)) ((f87 6 (by decide)).trans (f15 6 (by decide))) hI2
      have I105 : jI9 σ85 := jI9_fr (congrFun (f87 9 (by decide)) 0) (f87 10 (by decide)) (f87 11 (by decide)) I17
      have I106 : jI12 σ85 := jI12_fr ((congrFun (f87 12 (by decide)) 0).trans (congrFun (f15 12 (by decide)) 0)) ((f87 13 (by decide)).trans (f15 13 (by decide))) hI12
      have I107 : jI16 σ85 := jI16_fr ((congrFun (f87 16 (by decide)) 0).trans (congrFun (f15 16 (by decide)) 0)) ((congrFun (f87 16 (by decide)) 1).trans (congrFun (f15 16 (by decide)) 1)) ((congrFun (f87 16 (by decide)) 2).trans (congrFun (f15 16 (by decide)) 2)) ((f87 17 (by decide)).trans (f15 17 (by decide))) hI16
      have I108 : jI18 σ85 := jI18_fr ((congrFun (f87 18 (by decide)) 0).trans (congrFun (f15 18 (by decide)) 0)) ((f87 19 (by decide)).trans (f15 19 (by decide))) hI18
      have I109 : jI22 σ85 := jI22_fr ((congrFun (f87 22 (by decide)) 0).trans (congrFun (f15 22 (by decide)) 0)) ((f87 23 (by decide)).trans (f15 23 (by decide))) hI22
      have I110 : jI31 σ85 := jI31_fr ((congrFun (f87 31 (by decide)) 8).trans (congrFun (f15 31 (by decide)) 8)) ((f87 33 (by decide)).trans (f15 33 (by decide))) ((f87 36 (by decide)).trans (f15 36 (by decide))) hI31
      have I111 : jI38 σ85 := jI38_fr ((congrFun (f87 38 (by decide)) 0).trans (congrFun (f15 38 (by decide)) 0)) ((congrFun (f87 38 (by decide)) 1).trans (congrFun (f15 38 (by decide)) 1)) ((f87 39 (by decide)).trans (f15 39 (by decide))) hI38
      have I112 : jI43 σ85 := jI43_fr ((congrFun (f87 43 (by decide)) 8).trans (congrFun (f15 43 (by decide)) 8)) hI43
      have I113 : jI47 σ85 := jI47_fr ((congrFun (f87 47 (by decide)) 0).trans (congrFun (f15 47 (by decide)) 0)) ((f87 48 (by decide)).trans (f15 48 (by decide))) ((f87 49 (by decide)).trans (f15 49 (by decide))) hI47
      have I114 : jI50 σ85 := jI50_fr ((f87 52 (by decide)).trans (f15 52 (by decide))) hI50
      have I115 : jI101 σ85 := jI101_fr ((f88 4 (by decide)).trans (congrFun (f15 55 (by decide)) 4)) ((f88 5 (by decide)).trans (congrFun (f15 55 (by decide)) 5)) ((f87 56 (by decide)).trans (f15 56 (by decide))) ((f87 57 (by decide)).trans (f15 57 (by decide))) ((f87 58 (by decide)).trans (f15 58 (by decide))) ((f87 59 (by decide)).trans (f15 59 (by decide))) hI101
      have I116 : jI102 σ85 := jI102_fr ((f88 6 (by decide)).trans (congrFun (f15 55 (by decide)) 6)) ((f87 60 (by decide)).trans (f15 60 (by decide))) ((f87 61 (by decide)).trans (f15 61 (by decide))) hI102
      have I117 : jI103 σ85 := jI103_fr ((f88 9 (by decide)).trans (congrFun (f15 55 (by decide)) 9)) hI103
      have I118 : jI104 σ85 := jI104_fr ((f88 10 (by decide)).trans (congrFun (f15 55 (by decide)) 10)) ((f88 12 (by decide)).trans (congrFun (f15 55 (by decide)) 12)) ((f88 13 (by decide)).trans (congrFun (f15 55 (by decide)) 13)) ((f87 62 (by decide)).trans (f15 62 (by decide))) ((f87 67 (by decide)).trans (f15 67 (by decide))) hI104
      have I119 : jI106 σ85 := jI106_fr ((f88 32 (by decide)).trans (congrFun (f15 55 (by decide)) 32)) ((f87 70 (by decide)).trans (f15 70 (by decide))) ((f87 71 (by decide)).trans (f15 71 (by decide))) ((f87 72 (by decide)).trans (f15 72 (by decide))) hI106
      have I120 : jI107 σ85 := jI107_fr ((f88 12 (by decide)).trans (congrFun (f15 55 (by decide)) 12)) ((f88 47 (by decide)).trans (congrFun (f15 55 (by decide)) 47)) ((f87 80 (by decide)).trans (f15 80 (by decide))) hI107
      have I121 : jI109 σ85 := jI109_fr ((f88 50 (by decide)).trans (congrFun (f15 55 (by decide)) 50)) hI109
      have I122 : jI110 σ85 := jI110_fr ((f87 86 (by decide)).trans (f15 86 (by decide))) ((f87 87 (by decide)).trans (f15 87 (by decide))) hI110
      have I123 : jI111 σ85 := jI111_fr ((f87 79 (by decide)).trans (f15 79 (by decide))) hI111
      have I124 : jI119 σ85 := jI119_fr ((f87 68 (by decide)).trans (f15 68 (by decide))) hI119
      have p125 : jKept σ85 := jKept.fr ((f87 75 (by decide)).trans (f15 75 (by decide))) ((f87 76 (by decide)).trans (f15 76 (by decide))) ((f87 77 (by decide)).trans (f15 77 (by decide))) hs_jKept
      have p126 : jBook σ85 := jBook.fr ((f88 47 (by decide)).trans (congrFun (f15 55 (by decide)) 47)) ((f88 10 (by decide)).trans (congrFun (f15 55 (by decide)) 10)) ((f87 81 (by decide)).trans (f15 81 (by decide))) hs_jBook
      have z127 : (σ85 38 0).toInt = (σ 38 0).toInt := (congrArg Int32.toInt (show σ85 38 0 = (σ 38 0) from ((congrFun (f87 38 (by decide)) 0).trans (congrFun (f15 38 (by decide)) 0))))
      have z128 : (σ85 55 32).toInt = (σ 55 32).toInt := (congrArg Int32.toInt (show σ85 55 32 = (σ 55 32) from ((f88 32 (by decide)).trans (congrFun (f15 55 (by decide)) 32))))
      exact ih x103 σ85 τ _ _ ls (by have h9 := tx103; omega) ⟨I104, I105, I106, I107, I108, I109, I110, I111, I112, I113, I114, I115, I116, I117, I118, I89, I119, I120, I121, I122, I123, I124, p125, p126, (by omega), (show jShP (σ85 51) (σ85 52) (σ85 53) (σ85 86) (σ85 87) (σ85 55 32).toInt by rw [show σ85 51 = σ 51 from ((f87 51 (by decide)).trans (f15 51 (by decide))), show σ85 52 = σ 52 from ((f87 52 (by decide)).trans (f15 52 (by decide))), show σ85 53 = σ 53 from ((f87 53 (by decide)).trans (f15 53 (by decide))), show σ85 86 = σ 86 from ((f87 86 (by decide)).trans (f15 86 (by decide))), show σ85 87 = σ 87 from ((f87 87 (by decide)).trans (f15 87 (by decide)))]; exact (hr0.up (by omega) (by omega))), (show jKd (σ85 39) (σ85 70) (σ85 55 32).toInt by rw [show σ85 39 = σ 39 from ((f87 39 (by decide)).trans (f15 39 (by decide))), show σ85 70 = σ 70 from ((f87 70 (by decide)).trans (f15 70 (by decide))), show (σ85 55 32).toInt = (σ 55 32).toInt from by omega]; exact hr1)⟩ hP hS (lv_sub hl [0, 1, 2, 3] rfl)
    · obtain ⟨q134, k129, k130, k131, k132, k133⟩ := h93
      refine lv_pop hx hb dL_law_377 rfl ?_
      refine lv_goto (tgt := 1357) hx hb dL_law_378 (by decide) ?_
      obtain ⟨x135, ex135⟩ : ∃ y : Int32, y = x0 + 6 := ⟨_, rfl⟩
      have tx135 : x135.toInt = x0.toInt + 6 := (jadd ex135 rfl jz_6 (by omega) (by omega)).trans (by omega)
      refine lv_iinc (v := x135) (lv' := [(3, .int x135), (2, .ref (ad 55)), (1, .ref (ad 0)), (0, .ref b)]) hx hb dL_law_1357 hl (k := 0) rfl (by rw [ex135]; rfl) (by decide) rfl (fun ls hl => ?_)
      refine lv_goto (tgt := 18) hx hb dL_law_1360 (by decide) ?_
      have I136 : jI2 σ85 := jI2_fr ((congrFun (f87 2 (by decide)) 0).trans (congrFun (f15 2 (by decide)) 0)) ((congrFun (f87 2 (by decide)) 1).trans (congrFun (f15 2 (by decide)) 1)) ((congrFun (f87 2 (by decide)) 2).trans (congrFun (f15 2 (by decide)) 2)) ((congrFun (f87 2 (by decide)) 3).trans (congrFun (f15 2 (by decide)) 3)) ((f87 6 (by decide)).trans (f15 6 (by decide))) hI2
      have I137 : jI9 σ85 := jI9_fr (congrFun (f87 9 (by decide)) 0) (f87 10 (by decide)) (f87 11 (by decide)) I17
      have I138 : jI12 σ85 := jI12_fr ((congrFun (f87 12 (by decide)) 0).trans (congrFun (f15 12 (by decide)) 0)) ((f87 13 (by decide)).trans (f15 13 (by decide))) hI12
      have I139 : jI16 σ85 := jI16_fr ((congrFun (f87 16 (by decide)) 0).trans (congrFun (f15 16 (by decide)) 0)) ((congrFun (f87 16 (by decide)) 1).trans (congrFun (f15 16 (by decide)) 1)) ((congrFun (f87 16 (by decide)) 2).trans (congrFun (f15 16 (by decide)) 2)) ((f87 17 (by decide)).trans (f15 17 (by decide))) hI16
      have I140 : jI18 σ85 := jI18_fr ((congrFun (f87 18 (by decide)) 0).trans (congrFun (f15 18 (by decide)) 0)) ((f87 19 (by decide)).trans (f15 19 (by decide))) hI18
      have I141 : jI22 σ85 := jI22_fr ((congrFun (f87 22 (by decide)) 0).trans (congrFun (f15 22 (by decide)) 0)) ((f87 23 (by decide)).trans (f15 23 (by decide))) hI22
      have I142 : jI31 σ85 := jI31_fr ((congrFun (f87 31 (by decide)) 8).trans (congrFun (f15 31 (by decide)) 8)) ((f87 33 (by decide)).trans (f15 33 (by decide))) ((f87 36 (by decide)).trans (f15 36 (by decide))) hI31
      have I143 : jI38 σ85 := jI38_fr ((congrFun (f87 38 (by decide)) 0).trans (congrFun (f15 38 (by decide)) 0)) ((congrFun (f87 38 (by decide)) 1).trans (congrFun (f15 38 (by decide)) 1)) ((f87 39 (by decide)).trans (f15 39 (by decide))) hI38
      have I144 : jI43 σ85 := jI43_fr ((congrFun (f87 43 (by decide)) 8).trans (congrFun (f15 43 (by decide)) 8)) hI43
      have I145 : jI47 σ85 := jI47_fr ((congrFun (f87 47 (by decide)) 0).trans (congrFun (f15 47 (by decide)) 0)) ((f87 48 (by decide)).trans (f15 48 (by decide))) ((f87 49 (by decide)).trans (f15 49 (by decide))) hI47
      have I146 : jI50 σ85 := jI50_fr ((f87 52 (by decide)).trans (f15 52 (by decide))) hI50
      have I147 : jI101 σ85 := jI101_fr ((f88 4 (by decide)).trans (congrFun (f15 55 (by decide)) 4)) ((f88 5 (by decide)).trans (congrFun (f15 55 (by decide)) 5)) ((f87 56 (by decide)).trans (f15 56 (by decide))) ((f87 57 (by decide)).trans (f15 57 (by decide))) ((f87 58 (by decide)).trans (f15 58 (by decide))) ((f87 59 (by decide)).trans (f15 59 (by decide))) hI101
      have I148 : jI102 σ85 := jI102_fr ((f88 6 (by decide)).trans (congrFun (f15 55 (by decide)) 6)) ((f87 60 (by decide)).trans (f15 60 (by decide))) ((f87 61 (by decide)).trans (f15 61 (by decide))) hI102
      have I149 : jI103 σ85 := jI103_fr ((f88 9 (by decide)).trans (congrFun (f15 55 (by decide)) 9)) hI103
      have I150 : jI104 σ85 := jI104_fr ((f88 10 (by decide)).trans (congrFun (f15 55 (by decide)) 10)) ((f88 12 (by decide)).trans (congrFun (f15 55 (by decide)) 12)) ((f88 13 (by decide)).trans (congrFun (f15 55 (by decide)) 13)) ((f87 62 (by decide)).trans (f15 62 (by decide))) ((f87 67 (by decide)).trans (f15 67 (by decide))) hI104
      have I151 : jI106 σ85 := jI106_fr ((f88 32 (by decide)).trans (congrFun (f15 55 (by decide)) 32)) ((f87 70 (by decide)).trans (f15 70 (by decide))) ((f87 71 (by decide)).trans (f15 71 (by decide))) ((f87 72 (by decide)).trans (f15 72 (by decide))) hI106
      have I152 : jI107 σ85 := jI107_fr ((f88 12 (by decide)).trans (congrFun (f15 55 (by decide)) 12)) ((f88 47 (by decide)).trans (congrFun (f15 55 (by decide)) 47)) ((f87 80 (by decide)).trans (f15 80 (by decide))) hI107
      have I153 : jI109 σ85 := jI109_fr ((f88 50 (by decide)).trans (congrFun (f15 55 (by decide)) 50)) hI109
      have I154 : jI110 σ85 := jI110_fr ((f87 86 (by decide)).trans (f15 86 (by decide))) ((f87 87 (by decide)).trans (f15 87 (by decide))) hI110
      have I155 : jI111 σ85 := jI111_fr ((f87 79 (by decide)).trans (f15 79 (by decide))) hI111
      have I156 : jI119 σ85 := jI119_fr ((f87 68 (by decide)).trans (f15 68 (by decide))) hI119
      have p157 : jKept σ85 := jKept.fr ((f87 75 (by decide)).trans (f15 75 (by decide))) ((f87 76 (by decide)).trans (f15 76 (by decide))) ((f87 77 (by decide)).trans (f15 77 (by decide))) hs_jKept
      have p158 : jBook σ85 := jBook.fr ((f88 47 (by decide)).trans (congrFun (f15 55 (by decide)) 47)) ((f88 10 (by decide)).trans (congrFun (f15 55 (by decide)) 10)) ((f87 81 (by decide)).trans (f15 81 (by decide))) hs_jBook
      have z159 : (σ85 38 0).toInt = (σ 38 0).toInt := (congrArg Int32.toInt (show σ85 38 0 = (σ 38 0) from ((congrFun (f87 38 (by decide)) 0).trans (congrFun (f15 38 (by decide)) 0))))
      have z160 : (σ85 55 32).toInt = (σ 55 32).toInt := (congrArg Int32.toInt (show σ85 55 32 = (σ 55 32) from ((f88 32 (by decide)).trans (congrFun (f15 55 (by decide)) 32))))
      exact ih x135 σ85 τ _ _ ls (by have h9 := tx135; omega) ⟨I136, I137, I138, I139, I140, I141, I142, I143, I144, I145, I146, I147, I148, I149, I150, I89, I151, I152, I153, I154, I155, I156, p157, p158, (by omega), (show jShP (σ85 51) (σ85 52) (σ85 53) (σ85 86) (σ85 87) (σ85 55 32).toInt by rw [show σ85 51 = σ 51 from ((f87 51 (by decide)).trans (f15 51 (by decide))), show σ85 52 = σ 52 from ((f87 52 (by decide)).trans (f15 52 (by decide))), show σ85 53 = σ 53 from ((f87 53 (by decide)).trans (f15 53 (by decide))), show σ85 86 = σ 86 from ((f87 86 (by decide)).trans (f15 86 (by decide))), show σ85 87 = σ 87 from ((f87 87 (by decide)).trans (f15 87 (by decide)))]; exact (hr0.up (by omega) (by omega))), (show jKd (σ85 39) (σ85 70) (σ85 55 32).toInt by rw [show σ85 39 = σ 39 from ((f87 39 (by decide)).trans (f15 39 (by decide))), show σ85 70 = σ 70 from ((f87 70 (by decide)).trans (f15 70 (by decide))), show (σ85 55 32).toInt = (σ 55 32).toInt from by omega]; exact hr1)⟩ hP hS (lv_sub hl [0, 1, 2, 3] rfl)
  · obtain ⟨q166, k161, k162, k163, k164, k165⟩ := h21
    refine lv_pop hx hb dL_law_362 rfl ?_
    refine lv_aload_n hx hb dL_law_363 rfl (lv_at hl 1 rfl) ?_
    refine lv_aload_n hx hb dL_law_364 rfl (lv_at hl 3 rfl) ?_
    refine lv_iload_n hx hb dL_law_365 rfl (lv_at hl 0 rfl) ?_
    refine lv_iconst (v := 1) hx hb dL_law_366 (by decide) ?_
    refine lv_iadd hx hb dL_law_367 ?_
    refine jtopr ex9.symm ?_
    refine va_sld hx hb hX hbl hbA hS (jin tx9 (by omega) (by omega)) dL_law_368 ?_
    refine lv_aload_n hx hb dL_law_369 rfl (lv_at hl 3 rfl) ?_
    refine lv_iload_n hx hb dL_law_370 rfl (lv_at hl 0 rfl) ?_
    refine lv_iconst (v := 2) hx hb dL_law_371 (by decide) ?_
    refine lv_iadd hx hb dL_law_372 ?_
    refine jtopr ex11.symm ?_
    refine va_sld hx hb hX hbl hbA hS (jin tx11 (by omega) (by omega)) dL_law_373 ?_
    have I167 : jI105 σ13 := jI105_fr (congrFun (f15 55 (by decide)) 15) (f15 65 (by decide)) hI105
    have z168 : (σ13 55 15).toInt = (σ 55 15).toInt := (congrArg Int32.toInt (show σ13 55 15 = (σ 55 15) from (congrFun (f15 55 (by decide)) 15)))
    refine jcallV (As := [.int (xs x9.toNatClampNeg), .int (xs x11.toNatClampNeg)]) (rest := []) ⟨hx, hb, hml, hown, hts⟩ hK hP hA hS hZ (c_X12_feed l D cI cL ad zz hJ σ13 τ (xs x9.toNatClampNeg) ((xs x9.toNatClampNeg).toInt) rfl (xs x11.toNatClampNeg) ((xs x11.toNatClampNeg).toInt) rfl I167) cw_RL_35 (jc_55 cI cL ad σ13 τ) rfl ⟨Nat.le_of_ble_eq_true rfl, Nat.le_of_ble_eq_true rfl⟩ rfl rfl rfl hl.1 rfl (Nat.le_of_ble_eq_true rfl) dL_law_374 ⟨Nat.le_of_ble_eq_true rfl, Nat.le_of_ble_eq_true rfl⟩ (fun r170 σ169 τ169 H locs h169 hP hS => ?_)
    obtain ⟨rfl, f171, f172, I173, h169⟩ := h169
    rcases h169 with h175 | h176 | h177
    · obtain ⟨q181, k178, k179, k180⟩ := h175
      exact absurd (by omega : False) id
    · obtain ⟨q186, k182, k183, k184, k185⟩ := h176
      have q186 := q186.symm
      subst q186
      refine lv_pop hx hb dL_law_377 rfl ?_
      refine lv_goto (tgt := 1357) hx hb dL_law_378 (by decide) ?_
      obtain ⟨x187, ex187⟩ : ∃ y : Int32, y = x0 + 6 := ⟨_, rfl⟩
      have tx187 : x187.toInt = x0.toInt + 6 := (jadd ex187 rfl jz_6 (by omega) (by omega)).trans (by omega)
      refine lv_iinc (v := x187) (lv' := [(3, .int x187), (2, .ref (ad 55)), (1, .ref (ad 0)), (0, .ref b)]) hx hb dL_law_1357 hl (k := 0) rfl (by rw [ex187]; rfl) (by decide) rfl (fun ls hl => ?_)
      refine lv_goto (tgt := 18) hx hb dL_law_1360 (by decide) ?_
      have I188 : jI2 σ169 := jI2_fr ((congrFun (f171 2 (by decide)) 0).trans (congrFun (f15 2 (by decide)) 0)) ((congrFun (f171 2 (by decide)) 1).trans (congrFun (f15 2 (by decide)) 1)) ((congrFun (f171 2 (by decide)) 2).trans (congrFun (f15 2 (by decide)) 2)) ((congrFun (f171 2 (by decide)) 3).trans (congrFun (f15 2 (by decide)) 3)) ((f171 6 (by decide)).trans (f15 6 (by decide))) hI2
      have I189 : jI9 σ169 := jI9_fr (congrFun (f171 9 (by decide)) 0) (f171 10 (by decide)) (f171 11 (by decide)) I17
      have I190 : jI12 σ169 := jI12_fr ((congrFun (f171 12 (by decide)) 0).trans (congrFun (f15 12 (by decide)) 0)) ((f171 13 (by decide)).trans (f15 13 (by decide))) hI12
      have I191 : jI16 σ169 := jI16_fr ((congrFun (f171 16 (by decide)) 0).trans (congrFun (f15 16 (by decide)) 0)) ((congrFun (f171 16 (by decide)) 1).trans (congrFun (f15 16 (by decide)) 1)) ((congrFun (f171 16 (by decide)) 2).trans (congrFun (f15 16 (by decide)) 2)) ((f171 17 (by decide)).trans (f15 17 (by decide))) hI16
      have I192 : jI18 σ169 := jI18_fr ((congrFun (f171 18 (by decide)) 0).trans (congrFun (f15 18 (by decide)) 0)) ((f171 19 (by decide)).trans (f15 19 (by decide))) hI18
      have I193 : jI22 σ169 := jI22_fr ((congrFun (f171 22 (by decide)) 0).trans (congrFun (f15 22 (by decide)) 0)) ((f171 23 (by decide)).trans (f15 23 (by decide))) hI22
      have I194 : jI31 σ169 := jI31_fr ((congrFun (f171 31 (by decide)) 8).trans (congrFun (f15 31 (by decide)) 8)) ((f171 33 (by decide)).trans (f15 33 (by decide))) ((f171 36 (by decide)).trans (f15 36 (by decide))) hI31
      have I195 : jI38 σ169 := jI38_fr ((congrFun (f171 38 (by decide)) 0).trans (congrFun (f15 38 (by decide)) 0)) ((congrFun (f171 38 (by decide)) 1).trans (congrFun (f15 38 (by decide)) 1)) ((f171 39 (by decide)).trans (f15 39 (by decide))) hI38
      have I196 : jI43 σ169 := jI43_fr ((congrFun (f171 43 (by decide)) 8).trans (congrFun (f15 43 (by decide)) 8)) hI43
      have I197 : jI47 σ169 := jI47_fr ((congrFun (f171 47 (by decide)) 0).trans (congrFun (f15 47 (by decide)) 0)) ((f171 48 (by decide)).trans (f15 48 (by decide))) ((f171 49 (by decide)).trans (f15 49 (by decide))) hI47
      have I198 : jI50 σ169 := jI50_fr ((f171 52 (by decide)).trans (f15 52 (by decide))) hI50
      have I199 : jI101 σ169 := jI101_fr ((f172 4 (by decide)).trans (congrFun (f15 55 (by decide)) 4)) ((f172 5 (by decide)).trans (congrFun (f15 55 (by decide)) 5)) ((f171 56 (by decide)).trans (f15 56 (by decide))) ((f171 57 (by decide)).trans (f15 57 (by decide))) ((f171 58 (by decide)).trans (f15 58 (by decide))) ((f171 59 (by decide)).trans (f15 59 (by decide))) hI101
      have I200 : jI102 σ169 := jI102_fr ((f172 6 (by decide)).trans (congrFun (f15 55 (by decide)) 6)) ((f171 60 (by decide)).trans (f15 60 (by decide))) ((f171 61 (by decide)).trans (f15 61 (by decide))) hI102
      have I201 : jI103 σ169 := jI103_fr ((f172 9 (by decide)).trans (congrFun (f15 55 (by decide)) 9)) hI103
      have I202 : jI104 σ169 := jI104_fr ((f172 10 (by decide)).trans (congrFun (f15 55 (by decide)) 10)) ((f172 12 (by decide)).trans (congrFun (f15 55 (by decide)) 12)) ((f172 13 (by decide)).trans (congrFun (f15 55 (by decide)) 13)) ((f171 62 (by decide)).trans (f15 62 (by decide))) ((f171 67 (by decide)).trans (f15 67 (by decide))) hI104
      have I203 : jI106 σ169 := jI106_fr ((f172 32 (by decide)).trans (congrFun (f15 55 (by decide)) 32)) ((f171 70 (by decide)).trans (f15 70 (by decide))) ((f171 71 (by decide)).trans (f15 71 (by decide))) ((f171 72 (by decide)).trans (f15 72 (by decide))) hI106
      have I204 : jI107 σ169 := jI107_fr ((f172 12 (by decide)).trans (congrFun (f15 55 (by decide)) 12)) ((f172 47 (by decide)).trans (congrFun (f15 55 (by decide)) 47)) ((f171 80 (by decide)).trans (f15 80 (by decide))) hI107
      have I205 : jI109 σ169 := jI109_fr ((f172 50 (by decide)).trans (congrFun (f15 55 (by decide)) 50)) hI109
      have I206 : jI110 σ169 := jI110_fr ((f171 86 (by decide)).trans (f15 86 (by decide))) ((f171 87 (by decide)).trans (f15 87 (by decide))) hI110
      have I207 : jI111 σ169 := jI111_fr ((f171 79 (by decide)).trans (f15 79 (by decide))) hI111
      have I208 : jI119 σ169 := jI119_fr ((f171 68 (by decide)).trans (f15 68 (by decide))) hI119
      have p209 : jKept σ169 := jKept.fr ((f171 75 (by decide)).trans (f15 75 (by decide))) ((f171 76 (by decide)).trans (f15 76 (by decide))) ((f171 77 (by decide)).trans (f15 77 (by decide))) hs_jKept
      have p210 : jBook σ169 := jBook.fr ((f172 47 (by decide)).trans (congrFun (f15 55 (by decide)) 47)) ((f172 10 (by decide)).trans (congrFun (f15 55 (by decide)) 10)) ((f171 81 (by decide)).trans (f15 81 (by decide))) hs_jBook
      have z211 : (σ169 38 0).toInt = (σ 38 0).toInt := (congrArg Int32.toInt (show σ169 38 0 = (σ 38 0) from ((congrFun (f171 38 (by decide)) 0).trans (congrFun (f15 38 (by decide)) 0))))
      have z212 : (σ169 55 32).toInt = (σ 55 32).toInt := (congrArg Int32.toInt (show σ169 55 32 = (σ 55 32) from ((f172 32 (by decide)).trans (congrFun (f15 55 (by decide)) 32))))
      exact ih x187 σ169 τ _ _ ls (by have h9 := tx187; omega) ⟨I188, I189, I190, I191, I192, I193, I194, I195, I196, I197, I198, I199, I200, I201, I202, I173, I203, I204, I205, I206, I207, I208, p209, p210, (by omega), (show jShP (σ169 51) (σ169 52) (σ169 53) (σ169 86) (σ169 87) (σ169 55 32).toInt by rw [show σ169 51 = σ 51 from ((f171 51 (by decide)).trans (f15 51 (by decide))), show σ169 52 = σ 52 from ((f171 52 (by decide)).trans (f15 52 (by decide))), show σ169 53 = σ 53 from ((f171 53 (by decide)).trans (f15 53 (by decide))), show σ169 86 = σ 86 from ((f171 86 (by decide)).trans (f15 86 (by decide))), show σ169 87 = σ 87 from ((f171 87 (by decide)).trans (f15 87 (by decide)))]; exact (hr0.up (by omega) (by omega))), (show jKd (σ169 39) (σ169 70) (σ169 55 32).toInt by rw [show σ169 39 = σ 39 from ((f171 39 (by decide)).trans (f15 39 (by decide))), show σ169 70 = σ 70 from ((f171 70 (by decide)).trans (f15 70 (by decide))), show (σ169 55 32).toInt = (σ 55 32).toInt from by omega]; exact hr1)⟩ hP hS (lv_sub hl [0, 1, 2, 3] rfl)
    · obtain ⟨q218, k213, k214, k215, k216, k217⟩ := h177
      refine lv_pop hx hb dL_law_377 rfl ?_
      refine lv_goto (tgt := 1357) hx hb dL_law_378 (by decide) ?_
      obtain ⟨x219, ex219⟩ : ∃ y : Int32, y = x0 + 6 := ⟨_, rfl⟩
      have tx219 : x219.toInt = x0.toInt + 6 := (jadd ex219 rfl jz_6 (by omega) (by omega)).trans (by omega)
      refine lv_iinc (v := x219) (lv' := [(3, .int x219), (2, .ref (ad 55)), (1, .ref (ad 0)), (0, .ref b)]) hx hb dL_law_1357 hl (k := 0) rfl (by rw [ex219]; rfl) (by decide) rfl (fun ls hl => ?_)
      refine lv_goto (tgt := 18) hx hb dL_law_1360 (by decide) ?_
      have I220 : jI2 σ169 := jI2_fr ((congrFun (f171 2 (by decide)) 0).trans (congrFun (f15 2 (by decide)) 0)) ((congrFun (f171 2 (by decide)) 1).trans (congrFun (f15 2 (by decide)) 1)) ((congrFun (f171 2 (by decide)) 2).trans (congrFun (f15 2 (by decide)) 2)) ((congrFun (f171 2 (by decide)) 3).trans (congrFun (f15 2 (by decide)) 3)) ((f171 6 (by decide)).trans (f15 6 (by decide))) hI2
      have I221 : jI9 σ169 := jI9_fr (congrFun (f171 9 (by decide)) 0) (f171 10 (by decide)) (f171 11 (by decide)) I17
      have I222 : jI12 σ169 := jI12_fr ((congrFun (f171 12 (by decide)) 0).trans (congrFun (f15 12 (by decide)) 0)) ((f171 13 (by decide)).trans (f15 13 (by decide))) hI12
      have I223 : jI16 σ169 := jI16_fr ((congrFun (f171 16 (by decide)) 0).trans (congrFun (f15 16 (by decide)) 0)) ((congrFun (f171 16 (by decide)) 1).trans (congrFun (f15 16 (by decide)) 1)) ((congrFun (f171 16 (by decide)) 2).trans (congrFun (f15 16 (by decide)) 2)) ((f171 17 (by decide)).trans (f15 17 (by decide))) hI16
      have I224 : jI18 σ169 := jI18_fr ((congrFun (f171 18 (by decide)) 0).trans (congrFun (f15 18 (by decide)) 0)) ((f171 19 (by decide)).trans (f15 19 (by decide))) hI18
      have I225 : jI22 σ169 := jI22_fr ((congrFun (f171 22 (by decide)) 0).trans (congrFun (f15 22 (by decide)) 0)) ((f171 23 (by decide)).trans (f15 23 (by decide))) hI22
      have I226 : jI31 σ169 := jI31_fr ((congrFun (f171 31 (by decide)) 8).trans (congrFun (f15 31 (by decide)) 8)) ((f171 33 (by decide)).trans (f15 33 (by decide))) ((f171 36 (by decide)).trans (f15 36 (by decide))) hI31
      have I227 : jI38 σ169 := jI38_fr ((congrFun (f171 38 (by decide)) 0).trans (congrFun (f15 38 (by decide)) 0)) ((congrFun (f171 38 (by decide)) 1).trans (congrFun (f15 38 (by decide)) 1)) ((f171 39 (by decide)).trans (f15 39 (by decide))) hI38
      have I228 : jI43 σ169 := jI43_fr ((congrFun (f171 43 (by decide)) 8).trans (congrFun (f15 43 (by decide)) 8)) hI43
      have I229 : jI47 σ169 := jI47_fr ((congrFun (f171 47 (by decide)) 0).trans (congrFun (f15 47 (by decide)) 0)) ((f171 48 (by decide)).trans (f15 48 (by decide))) ((f171 49 (by decide)).trans (f15 49 (by decide))) hI47
      have I230 : jI50 σ169 := jI50_fr ((f171 52 (by decide)).trans (f15 52 (by decide))) hI50
      have I231 : jI101 σ169 := jI101_fr ((f172 4 (by decide)).trans (congrFun (f15 55 (by decide)) 4)) ((f172 5 (by decide)).trans (congrFun (f15 55 (by decide)) 5)) ((f171 56 (by decide)).trans (f15 56 (by decide))) ((f171 57 (by decide)).trans (f15 57 (by decide))) ((f171 58 (by decide)).trans (f15 58 (by decide))) ((f171 59 (by decide)).trans (f15 59 (by decide))) hI101
      have I232 : jI102 σ169 := jI102_fr ((f172 6 (by decide)).trans (congrFun (f15 55 (by decide)) 6)) ((f171 60 (by decide)).trans (f15 60 (by decide))) ((f171 61 (by decide)).trans (f15 61 (by decide))) hI102
      have I233 : jI103 σ169 := jI103_fr ((f172 9 (by decide)).trans (congrFun (f15 55 (by decide)) 9)) hI103
      have I234 : jI104 σ169 := jI104_fr ((f172 10 (by decide)).trans (congrFun (f15 55 (by decide)) 10)) ((f172 12 (by decide)).trans (congrFun (f15 55 (by decide)) 12)) ((f172 13 (by decide)).trans (congrFun (f15 55 (by decide)) 13)) ((f171 62 (by decide)).trans (f15 62 (by decide))) ((f171 67 (by decide)).trans (f15 67 (by decide))) hI104
      have I235 : jI106 σ169 := jI106_fr ((f172 32 (by decide)).trans (congrFun (f15 55 (by decide)) 32)) ((f171 70 (by decide)).trans (f15 70 (by decide))) ((f171 71 (by decide)).trans (f15 71 (by decide))) ((f171 72 (by decide)).trans (f15 72 (by decide))) hI106
      have I236 : jI107 σ169 := jI107_fr ((f172 12 (by decide)).trans (congrFun (f15 55 (by decide)) 12)) ((f172 47 (by decide)).trans (congrFun (f15 55 (by decide)) 47)) ((f171 80 (by decide)).trans (f15 80 (by decide))) hI107
      have I237 : jI109 σ169 := jI109_fr ((f172 50 (by decide)).trans (congrFun (f15 55 (by decide)) 50)) hI109
      have I238 : jI110 σ169 := jI110_fr ((f171 86 (by decide)).trans (f15 86 (by decide))) ((f171 87 (by decide)).trans (f15 87 (by decide))) hI110
      have I239 : jI111 σ169 := jI111_fr ((f171 79 (by decide)).trans (f15 79 (by decide))) hI111
      have I240 : jI119 σ169 := jI119_fr ((f171 68 (by decide)).trans (f15 68 (by decide))) hI119
      have p241 : jKept σ169 := jKept.fr ((f171 75 (by decide)).trans (f15 75 (by decide))) ((f171 76 (by decide)).trans (f15 76 (by decide))) ((f171 77 (by decide)).trans (f15 77 (by decide))) hs_jKept
      have p242 : jBook σ169 := jBook.fr ((f172 47 (by decide)).trans (congrFun (f15 55 (by decide)) 47)) ((f172 10 (by decide)).trans (congrFun (f15 55 (by decide)) 10)) ((f171 81 (by decide)).trans (f15 81 (by decide))) hs_jBook
      have z243 : (σ169 38 0).toInt = (σ 38 0).toInt := (congrArg Int32.toInt (show σ169 38 0 = (σ 38 0) from ((congrFun (f171 38 (by decide)) 0).trans (congrFun (f15 38 (by decide)) 0))))
      have z244 : (σ169 55 32).toInt = (σ 55 32).toInt := (congrArg Int32.toInt (show σ169 55 32 = (σ 55 32) from ((f172 32 (by decide)).trans (congrFun (f15 55 (by decide)) 32))))
      exact ih x219 σ169 τ _ _ ls (by have h9 := tx219; omega) ⟨I220, I221, I222, I223, I224, I225, I226, I227, I228, I229, I230, I231, I232, I233, I234, I173, I235, I236, I237, I238, I239, I240, p241, p242, (by omega), (show jShP (σ169 51) (σ169 52) (σ169 53) (σ169 86) (σ169 87) (σ169 55 32).toInt by rw [show σ169 51 = σ 51 from ((f171 51 (by decide)).trans (f15 51 (by decide))), show σ169 52 = σ 52 from ((f171 52 (by decide)).trans (f15 52 (by decide))), show σ169 53 = σ 53 from ((f171 53 (by decide)).trans (f15 53 (by decide))), show σ169 86 = σ 86 from ((f171 86 (by decide)).trans (f15 86 (by decide))), show σ169 87 = σ 87 from ((f171 87 (by decide)).trans (f15 87 (by decide)))]; exact (hr0.up (by omega) (by omega))), (show jKd (σ169 39) (σ169 70) (σ169 55 32).toInt by rw [show σ169 39 = σ 39 from ((f171 39 (by decide)).trans (f15 39 (by decide))), show σ169 70 = σ 70 from ((f171 70 (by decide)).trans (f15 70 (by decide))), show (σ169 55 32).toInt = (σ 55 32).toInt from by omega]; exact hr1)⟩ hP hS (lv_sub hl [0, 1, 2, 3] rfl)
set_option maxHeartbeats 4000000 in
set_option maxRecDepth 100000 in
theorem law_case_5 {p : Program} {e : Env} {s : State} {m : MethodId} {below : List Frame} {meth : Method} {c : Code} (l : Launch) {b L : Nat} {xs : Nat → Int32} {D : va_G} {cI cL : ClassId} {ad zz : Nat → Nat} (C0 : lw_At p s m meth c b L xs) (hJ : jD ad) (hA : ∀ q, jA ad q → s.heap.size ≤ q) (hK : jK D cI cL s) (hZ : jZ zz (fun q : Nat => s.heap.size ≤ q) s s.heap) {x0 : Int32} (hx0 : 0 ≤ x0.toInt) (hxL : x0.toInt + 6 ≤ (L : Int)) (hL : L ≤ 384) {σ : Nat → Nat → Int32} {τ : Nat → Nat → Int64} {H : Heap} {locs : List Loc} (hS : va_S (fun q : Nat => s.heap.size ≤ q) s.heap H locs) {ls : Array Slot} (hAll : jAll σ τ) (hP : jH D cI cL ad σ τ H) (hl : lv_has ls 4 [(3, .int x0), (2, .ref (ad 55)), (1, .ref (ad 0)), (0, .ref b)]) (ih : ∀ (x1 : Int32) (σ : Nat → Nat → Int32) (τ : Nat → Nat → Int64) (H : Heap) (locs : List Loc) (ls : Array Slot), x1.toInt = x0.toInt + 6 → jAll σ τ → jH D cI cL ad σ τ H → va_S (fun q : Nat => s.heap.size ≤ q) s.heap H locs → lv_has ls 4 [(3, .int x1), (2, .ref (ad 55)), (1, .ref (ad 0)), (0, .ref b)] → W p l e room_1 s m #[Value.ref b] below meth c H locs 90 348600 (lw_Z below #[Value.ref b] s) (F0 m 18 ls [])) : W p l e room_1 s m #[Value.ref b] below meth c H locs 90 348600 (lw_Z below #[Value.ref b] s) (F0 m 381 ls []) := by
  obtain ⟨hx, hb, hr, hml, hown, hts0, hX, hbl, hlocks, hgv⟩ := C0
  have hts : ∀ w ∈ wsL_law, w.before #[Value.ref b] s = true := fun w h => hts0 w (wsL_law_in w h)
  have hbA : ¬ (fun q : Nat => s.heap.size ≤ q) b := Nat.not_le.mpr hbl
  have hown : s.vm.findClass RL = some m.cls := hown
  obtain ⟨hI2, hI9, hI12, hI16, hI18, hI22, hI31, hI38, hI43, hI47, hI50, hI101, hI102, hI103, hI104, hI105, hI106, hI107, hI109, hI110, hI111, hI119, hs_jKept, hs_jBook, ht0, hr0, hr1⟩ := hAll
  have hL9 : (L : Int) ≤ 384 := by omega
  obtain ⟨i1, i2, w3⟩ : (0 ≤ (σ 38 0).toInt ∧ (σ 38 0).toInt ≤ 20) ∧ (0 ≤ (σ 38 1).toInt ∧ (σ 38 1).toInt ≤ 1000) ∧ (∀ k : Nat, k < 20 → 0 ≤ (σ 39 k).toInt ∧ (σ 39 k).toInt ≤ 6) := id hI38
  obtain ⟨i4, w5, w6, w7⟩ : (0 ≤ (σ 55 32).toInt ∧ (σ 55 32).toInt ≤ 20) ∧ (∀ k : Nat, k < 20 → 0 ≤ (σ 70 k).toInt ∧ (σ 70 k).toInt ≤ 6) ∧ (∀ k : Nat, k < 20 → 0 ≤ (σ 71 k).toInt ∧ (σ 71 k).toInt ≤ 8) ∧ (∀ k : Nat, k < 160 → 0 ≤ (σ 72 k).toInt ∧ (σ 72 k).toInt ≤ 3) := id hI106
  refine lv_aload_n hx hb dL_law_381 rfl (lv_at hl 2 rfl) ?_
  refine jcallV (As := []) (rest := []) ⟨hx, hb, hml, hown, hts⟩ hK hP hA hS hZ (c_X11_order l D cI cL ad zz hJ σ τ hI9 hI16 hI47) cw_RL_36 (jc_0 cI cL ad σ τ) rfl ⟨Nat.le_of_ble_eq_true rfl, Nat.le_of_ble_eq_true rfl⟩ rfl rfl rfl hl.1 rfl (Nat.le_of_ble_eq_true rfl) dL_law_382 ⟨Nat.le_of_ble_eq_true rfl, Nat.le_of_ble_eq_true rfl⟩ (fun r9 σ8 τ8 H locs h8 hP hS => ?_)
  obtain ⟨rfl, f10, f11, f12, f13, I14, I15, I16, w17, h8⟩ := h8
  obtain ⟨k19, h8⟩ := h8
  rcases h8 with h20 | h21
  · obtain ⟨q24, k22, k23⟩ := h20
    refine lv_pop hx hb dL_law_385 rfl ?_
    refine lv_aload_n hx hb dL_law_386 rfl (lv_at hl 1 rfl) ?_
    have I25 : jI104 σ8 := jI104_fr (congrFun (f10 55 (by decide)) 10) (congrFun (f10 55 (by decide)) 12) (congrFun (f10 55 (by decide)) 13) (f10 62 (by decide)) (f10 67 (by decide)) hI104
    have I26 : jI105 σ8 := jI105_fr (congrFun (f10 55 (by decide)) 15) (f10 65 (by decide)) hI105
    have I27 : jI107 σ8 := jI107_fr (congrFun (f10 55 (by decide)) 12) (congrFun (f10 55 (by decide)) 47) (f10 80 (by decide)) hI107
    have p28 : jBook σ8 := jBook.fr (congrFun (f10 55 (by decide)) 47) (congrFun (f10 55 (by decide)) 10) (f10 81 (by decide)) hs_jBook
    have z29 : (σ8 55 47).toInt = (σ 55 47).toInt := (congrArg Int32.toInt (show σ8 55 47 = (σ 55 47) from (congrFun (f10 55 (by decide)) 47)))
    refine jcallV (As := []) (rest := []) ⟨hx, hb, hml, hown, hts⟩ hK hP hA hS hZ (c_X12_order l D cI cL ad zz hJ σ8 τ I25 I26 I27 p28) cw_RL_40 (jc_55 cI cL ad σ8 τ) rfl ⟨Nat.le_of_ble_eq_true rfl, Nat.le_of_ble_eq_true rfl⟩ rfl rfl rfl hl.1 rfl (Nat.le_of_ble_eq_true rfl) dL_law_387 ⟨Nat.le_of_ble_eq_true rfl, Nat.le_of_ble_eq_true rfl⟩ (fun r31 σ30 τ30 H locs h30 hP hS => ?_)
    obtain ⟨rfl, f32, f33, I34, I35, I36, p37, w38, h30⟩ := h30
    obtain ⟨k40, h30⟩ := h30
    rcases h30 with h41 | h42
    · obtain ⟨q45, k43, k44⟩ := h41
      refine lv_pop hx hb dL_law_390 rfl ?_
      refine lv_goto (tgt := 1357) hx hb dL_law_391 (by decide) ?_
      obtain ⟨x46, ex46⟩ : ∃ y : Int32, y = x0 + 6 := ⟨_, rfl⟩
      have tx46 : x46.toInt = x0.toInt + 6 := (jadd ex46 rfl jz_6 (by omega) (by omega)).trans (by omega)
      refine lv_iinc (v := x46) (lv' := [(3, .int x46), (2, .ref (ad 55)), (1, .ref (ad 0)), (0, .ref b)]) hx hb dL_law_1357 hl (k := 0) rfl (by rw [ex46]; rfl) (by decide) rfl (fun ls hl => ?_)
      refine lv_goto (tgt := 18) hx hb dL_law_1360 (by decide) ?_
      have I47 : jI2 σ30 := jI2_fr ((congrFun (f32 2 (by decide)) 0).trans (congrFun (f10 2 (by decide)) 0)) ((congrFun (f32 2 (by decide)) 1).trans (congrFun (f10 2 (by decide)) 1)) ((congrFun (f32 2 (by decide)) 2).trans (congrFun (f10 2 (by decide)) 2)) ((congrFun (f32 2 (by decide)) 3).trans (congrFun (f10 2 (by decide)) 3)) ((f32 6 (by decide)).trans (f10 6 (by decide))) hI2
      have I48 : jI9 σ30 := jI9_fr (congrFun (f32 9 (by decide)) 0) (f32 10 (by decide)) (f32 11 (by decide)) I14
      have I49 : jI12 σ30 := jI12_fr ((congrFun (f32 12 (by decide)) 0).trans (congrFun (f10 12 (by decide)) 0)) ((f32 13 (by decide)).trans (f10 13 (by decide))) hI12
      have I50 : jI16 σ30 := jI16_fr (congrFun (f32 16 (by decide)) 0) (congrFun (f32 16 (by decide)) 1) (congrFun (f32 16 (by decide)) 2) (f32 17 (by decide)) I15
      have I51 : jI18 σ30 := jI18_fr ((congrFun (f32 18 (by decide)) 0).trans (congrFun (f10 18 (by decide)) 0)) ((f32 19 (by decide)).trans (f10 19 (by decide))) hI18
      have I52 : jI22 σ30 := jI22_fr ((congrFun (f32 22 (by decide)) 0).trans (congrFun (f10 22 (by decide)) 0)) ((f32 23 (by decide)).trans (f10 23 (by decide))) hI22
      have I53 : jI31 σ30 := jI31_fr ((congrFun (f32 31 (by decide)) 8).trans (congrFun (f10 31 (by decide)) 8)) ((f32 33 (by decide)).trans (f10 33 (by decide))) ((f32 36 (by decide)).trans (f10 36 (by decide))) hI31
      have I54 : jI38 σ30 := jI38_fr ((congrFun (f32 38 (by decide)) 0).trans (congrFun (f10 38 (by decide)) 0)) ((congrFun (f32 38 (by decide)) 1).trans (congrFun (f10 38 (by decide)) 1)) ((f32 39 (by decide)).trans (f10 39 (by decide))) hI38
      have I55 : jI43 σ30 := jI43_fr ((congrFun (f32 43 (by decide)) 8).trans (congrFun (f10 43 (by decide)) 8)) hI43
      have I56 : jI47 σ30 := jI47_fr (congrFun (f32 47 (by decide)) 0) (f32 48 (by decide)) (f32 49 (by decide)) I16
      have I57 : jI50 σ30 := jI50_fr ((f32 52 (by decide)).trans (f10 52 (by decide))) hI50
      have I58 : jI101 σ30 := jI101_fr ((f33 4 (by decide)).trans (congrFun (f10 55 (by decide)) 4)) ((f33 5 (by decide)).trans (congrFun (f10 55 (by decide)) 5)) ((f32 56 (by decide)).trans (f10 56 (by decide))) ((f32 57 (by decide)).trans (f10 57 (by decide))) ((f32 58 (by decide)).trans (f10 58 (by decide))) ((f32 59 (by decide)).trans (f10 59 (by decide))) hI101
      have I59 : jI102 σ30 := jI102_fr ((f33 6 (by decide)).trans (congrFun (f10 55 (by decide)) 6)) ((f32 60 (by decide)).trans (f10 60 (by decide))) ((f32 61 (by decide)).trans (f10 61 (by decide))) hI102
      have I60 : jI103 σ30 := jI103_fr ((f33 9 (by decide)).trans (congrFun (f10 55 (by decide)) 9)) hI103
      have I61 : jI106 σ30 := jI106_fr ((f33 32 (by decide)).trans (congrFun (f10 55 (by decide)) 32)) ((f32 70 (by decide)).trans (f10 70 (by decide))) ((f32 71 (by decide)).trans (f10 71 (by decide))) ((f32 72 (by decide)).trans (f10 72 (by decide))) hI106
      have I62 : jI109 σ30 := jI109_fr ((f33 50 (by decide)).trans (congrFun (f10 55 (by decide)) 50)) hI109
      have I63 : jI110 σ30 := jI110_fr ((f32 86 (by decide)).trans (f10 86 (by decide))) ((f32 87 (by decide)).trans (f10 87 (by decide))) hI110
      have I64 : jI111 σ30 := jI111_fr ((f32 79 (by decide)).trans (f10 79 (by decide))) hI111
      have I65 : jI119 σ30 := jI119_fr ((f32 68 (by decide)).trans (f10 68 (by decide))) hI119
      have p66 : jKept σ30 := jKept.fr ((f32 75 (by decide)).trans (f10 75 (by decide))) ((f32 76 (by decide)).trans (f10 76 (by decide))) ((f32 77 (by decide)).trans (f10 77 (by decide))) hs_jKept
      have z67 : (σ30 38 0).toInt = (σ 38 0).toInt := (congrArg Int32.toInt (show σ30 38 0 = (σ 38 0) from ((congrFun (f32 38 (by decide)) 0).trans (congrFun (f10 38 (by decide)) 0))))
      have z68 : (σ30 55 32).toInt = (σ 55 32).toInt := (congrArg Int32.toInt (show σ30 55 32 = (σ 55 32) from ((f33 32 (by decide)).trans (congrFun (f10 55 (by decide)) 32))))
      exact ih x46 σ30 τ _ _ ls (by have h9 := tx46; omega) ⟨I47, I48, I49, I50, I51, I52, I53, I54, I55, I56, I57, I58, I59, I60, I34, I35, I61, I36, I62, I63, I64, I65, p66, p37, (by omega), (show jShP (σ30 51) (σ30 52) (σ30 53) (σ30 86) (σ30 87) (σ30 55 32).toInt by rw [show σ30 51 = σ 51 from ((f32 51 (by decide)).trans (f10 51 (by decide))), show σ30 52 = σ 52 from ((f32 52 (by decide)).trans (f10 52 (by decide))), show σ30 53 = σ 53 from ((f32 53 (by decide)).trans (f10 53 (by decide))), show σ30 86 = σ 86 from ((f32 86 (by decide)).trans (f10 86 (by decide))), show σ30 87 = σ 87 from ((f32 87 (by decide)).trans (f10 87 (by decide)))]; exact (hr0.up (by omega) (by omega))), (show jKd (σ30 39) (σ30 70) (σ30 55 32).toInt by rw [show σ30 39 = σ 39 from ((f32 39 (by decide)).trans (f10 39 (by decide))), show σ30 70 = σ 70 from ((f32 70 (by decide)).trans (f10 70 (by decide))), show (σ30 55 32).toInt = (σ 55 32).toInt from by omega]; exact hr1)⟩ hP hS (lv_sub hl [0, 1, 2, 3] rfl)
    · obtain ⟨q71, k69, k70⟩ := h42
      refine lv_pop hx hb dL_law_390 rfl ?_
      refine lv_goto (tgt := 1357) hx hb dL_law_391 (by decide) ?_
      obtain ⟨x72, ex72⟩ : ∃ y : Int32, y = x0 + 6 := ⟨_, rfl⟩
      have tx72 : x72.toInt = x0.toInt + 6 := (jadd ex72 rfl jz_6 (by omega) (by omega)).trans (by omega)
      refine lv_iinc (v := x72) (lv' := [(3, .int x72), (2, .ref (ad 55)), (1, .ref (ad 0)), (0, .ref b)]) hx hb dL_law_1357 hl (k := 0) rfl (by rw [ex72]; rfl) (by decide) rfl (fun ls hl => ?_)
      refine lv_goto (tgt := 18) hx hb dL_law_1360 (by decide) ?_
      have I73 : jI2 σ30 := jI2_fr ((congrFun (f32 2 (by decide)) 0).trans (congrFun (f10 2 (by decide)) 0)) ((congrFun (f32 2 (by decide)) 1).trans (congrFun (f10 2 (by decide)) 1)) ((congrFun (f32 2 (by decide)) 2).trans (congrFun (f10 2 (by decide)) 2)) ((congrFun (f32 2 (by decide)) 3).trans (congrFun (f10 2 (by decide)) 3)) ((f32 6 (by decide)).trans (f10 6 (by decide))) hI2
      have I74 : jI9 σ30 := jI9_fr (congrFun (f32 9 (by decide)) 0) (f32 10 (by decide)) (f32 11 (by decide)) I14
      have I75 : jI12 σ30 := jI12_fr ((congrFun (f32 12 (by decide)) 0).trans (congrFun (f10 12 (by decide)) 0)) ((f32 13 (by decide)).trans (f10 13 (by decide))) hI12
      have I76 : jI16 σ30 := jI16_fr (congrFun (f32 16 (by decide)) 0) (congrFun (f32 16 (by decide)) 1) (congrFun (f32 16 (by decide)) 2) (f32 17 (by decide)) I15
      have I77 : jI18 σ30 := jI18_fr ((congrFun (f32 18 (by decide)) 0).trans (congrFun (f10 18 (by decide)) 0)) ((f32 19 (by decide)).trans (f10 19 (by decide))) hI18
      have I78 : jI22 σ30 := jI22_fr ((congrFun (f32 22 (by decide)) 0).trans (congrFun (f10 22 (by decide)) 0)) ((f32 23 (by decide)).trans (f10 23 (by decide))) hI22
      have I79 : jI31 σ30 := jI31_fr ((congrFun (f32 31 (by decide)) 8).trans (congrFun (f10 31 (by decide)) 8)) ((f32 33 (by decide)).trans (f10 33 (by decide))) ((f32 36 (by decide)).trans (f10 36 (by decide))) hI31
      have I80 : jI38 σ30 := jI38_fr ((congrFun (f32 38 (by decide)) 0).trans (congrFun (f10 38 (by decide)) 0)) ((congrFun (f32 38 (by decide)) 1).trans (congrFun (f10 38 (by decide)) 1)) ((f32 39 (by decide)).trans (f10 39 (by decide))) hI38
      have I81 : jI43 σ30 := jI43_fr ((congrFun (f32 43 (by decide)) 8).trans (congrFun (f10 43 (by decide)) 8)) hI43
      have I82 : jI47 σ30 := jI47_fr (congrFun (f32 47 (by decide)) 0) (f32 48 (by decide)) (f32 49 (by decide)) I16
      have I83 : jI50 σ30 := jI50_fr ((f32 52 (by decide)).trans (f10 52 (by decide))) hI50
      have I84 : jI101 σ30 := jI101_fr ((f33 4 (by decide)).trans (congrFun (f10 55 (by decide)) 4)) ((f33 5 (by decide)).trans (congrFun (f10 55 (by decide)) 5)) ((f32 56 (by decide)).trans (f10 56 (by decide))) ((f32 57 (by decide)).trans (f10 57 (by decide))) ((f32 58 (by decide)).trans (f10 58 (by decide))) ((f32 59 (by decide)).trans (f10 59 (by decide))) hI101
      have I85 : jI102 σ30 := jI102_fr ((f33 6 (by decide)).trans (congrFun (f10 55 (by decide)) 6)) ((f32 60 (by decide)).trans (f10 60 (by decide))) ((f32 61 (by decide)).trans (f10 61 (by decide))) hI102
      have I86 : jI103 σ30 := jI103_fr ((f33 9 (by decide)).trans (congrFun (f10 55 (by decide)) 9)) hI103
      have I87 : jI106 σ30 := jI106_fr ((f33 32 (by decide)).trans (congrFun (f10 55 (by decide)) 32)) ((f32 70 (by decide)).trans (f10 70 (by decide))) ((f32 71 (by decide)).trans (f10 71 (by decide))) ((f32 72 (by decide)).trans (f10 72 (by decide))) hI106
      have I88 : jI109 σ30 := jI109_fr ((f33 50 (by decide)).trans (congrFun (f10 55 (by decide)) 50)) hI109
      have I89 : jI110 σ30 := jI110_fr ((f32 86 (by decide)).trans (f10 86 (by decide))) ((f32 87 (by decide)).trans (f10 87 (by decide))) hI110
      have I90 : jI111 σ30 := jI111_fr ((f32 79 (by decide)).trans (f10 79 (by decide))) hI111
      have I91 : jI119 σ30 := jI119_fr ((f32 68 (by decide)).trans (f10 68 (by decide))) hI119
      have p92 : jKept σ30 := jKept.fr ((f32 75 (by decide)).trans (f10 75 (by decide))) ((f32 76 (by decide)).trans (f10 76 (by decide))) ((f32 77 (by decide)).trans (f10 77 (by decide))) hs_jKept
      have z93 : (σ30 38 0).toInt = (σ 38 0).toInt := (congrArg Int32.toInt (show σ30 38 0 = (σ 38 0) from ((congrFun (f32 38 (by decide)) 0).trans (congrFun (f10 38 (by decide)) 0))))
      have z94 : (σ30 55 32).toInt = (σ 55 32).toInt := (congrArg Int32.toInt (show σ30 55 32 = (σ 55 32) from ((f33 32 (by decide)).trans (congrFun (f10 55 (by decide)) 32))))
      exact ih x72 σ30 τ _ _ ls (by have h9 := tx72; omega) ⟨I73, I74, I75, I76, I77, I78, I79, I80, I81, I82, I83, I84, I85, I86, I34, I35, I87, I36, I88, I89, I90, I91, p92, p37, (by omega), (show jShP (σ30 51) (σ30 52) (σ30 53) (σ30 86) (σ30 87) (σ30 55 32).toInt by rw [show σ30 51 = σ 51 from ((f32 51 (by decide)).trans (f10 51 (by decide))), show σ30 52 = σ 52 from ((f32 52 (by decide)).trans (f10 52 (by decide))), show σ30 53 = σ 53 from ((f32 53 (by decide)).trans (f10 53 (by decide))), show σ30 86 = σ 86 from ((f32 86 (by decide)).trans (f10 86 (by decide))), show σ30 87 = σ 87 from ((f32 87 (by decide)).trans (f10 87 (by decide)))]; exact (hr0.up (by omega) (by omega))), (show jKd (σ30 39) (σ30 70) (σ30 55 32).toInt by rw [show σ30 39 = σ 39 from ((f32 39 (by decide)).trans (f10 39 (by decide))), show σ30 70 = σ 70 from ((f32 70 (by decide)).trans (f10 70 (by decide))), show (σ30 55 32).toInt = (σ 55 32).toInt from by omega]; exact hr1)⟩ hP hS (lv_sub hl [0, 1, 2, 3] rfl)
  · obtain ⟨q97, k95, k96⟩ := h21
    refine lv_pop hx hb dL_law_385 rfl ?_
    refine lv_aload_n hx hb dL_law_386 rfl (lv_at hl 1 rfl) ?_
    have I98 : jI104 σ8 := jI104_fr (congrFun (f10 55 (by decide)) 10) (congrFun (f10 55 (by decide)) 12) (congrFun (f10 55 (by decide)) 13) (f10 62 (by decide)) (f10 67 (by decide)) hI104
    have I99 : jI105 σ8 := jI105_fr (congrFun (f10 55 (by decide)) 15) (f10 65 (by decide)) hI105
    have I100 : jI107 σ8 := jI107_fr (congrFun (f10 55 (by decide)) 12) (congrFun (f10 55 (by decide)) 47) (f10 80 (by decide)) hI107
    have p101 : jBook σ8 := jBook.fr (congrFun (f10 55 (by decide)) 47) (congrFun (f10 55 (by decide)) 10) (f10 81 (by decide)) hs_jBook
    have z102 : (σ8 55 47).toInt = (σ 55 47).toInt := (congrArg Int32.toInt (show σ8 55 47 = (σ 55 47) from (congrFun (f10 55 (by decide)) 47)))
    refine jcallV (As := []) (rest := []) ⟨hx, hb, hml, hown, hts⟩ hK hP hA hS hZ (c_X12_order l D cI cL ad zz hJ σ8 τ I98 I99 I100 p101) cw_RL_40 (jc_55 cI cL ad σ8 τ) rfl ⟨Nat.le_of_ble_eq_true rfl, Nat.le_of_ble_eq_true rfl⟩ rfl rfl rfl hl.1 rfl (Nat.le_of_ble_eq_true rfl) dL_law_387 ⟨Nat.le_of_ble_eq_true rfl, Nat.le_of_ble_eq_true rfl⟩ (fun r104 σ103 τ103 H locs h103 hP hS => ?_)
    obtain ⟨rfl, f105, f106, I107, I108, I109, p110, w111, h103⟩ := h103
    obtain ⟨k113, h103⟩ := h103
    rcases h103 with h114 | h115
    · obtain ⟨q118, k116, k117⟩ := h114
      refine lv_pop hx hb dL_law_390 rfl ?_
      refine lv_goto (tgt := 1357) hx hb dL_law_391 (by decide) ?_
      obtain ⟨x119, ex119⟩ : ∃ y : Int32, y = x0 + 6 := ⟨_, rfl⟩
      have tx119 : x119.toInt = x0.toInt + 6 := (jadd ex119 rfl jz_6 (by omega) (by omega)).trans (by omega)
      refine lv_iinc (v := x119) (lv' := [(3, .int x119), (2, .ref (ad 55)), (1, .ref (ad 0)), (0, .ref b)]) hx hb dL_law_1357 hl (k := 0) rfl (by rw [ex119]; rfl) (by decide) rfl (fun ls hl => ?_)
      refine lv_goto (tgt := 18) hx hb dL_law_1360 (by decide) ?_
      have I120 : jI2 σ103 := jI2_fr ((congrFun (f105 2 (by decide)) 0).trans (congrFun (f10 2 (by decide)) 0)) ((congrFun (f105 2 (by decide)) 1).trans (congrFun (f10 2 (by decide)) 1)) ((congrFun (f105 2 (by decide)) 2).trans (congrFun (f10 2 (by decide)) 2)) ((congrFun (f105 2 (by decide)) 3).trans (congrFun (f10 2 (by decide)) 3)) ((f105 6 (by decide)).trans (f10 6 (by decide))) hI2
      have I121 : jI9 σ103 := jI9_fr (congrFun (f105 9 (by decide)) 0) (f105 10 (by decide)) (f105 11 (by decide)) I14
      have I122 : jI12 σ103 := jI12_fr ((congrFun (f105 12 (by decide)) 0).trans (congrFun (f10 12 (by decide)) 0)) ((f105 13 (by decide)).trans (f10 13 (by decide))) hI12
      have I123 : jI16 σ103 := jI16_fr (congrFun (f105 16 (by decide)) 0) (congrFun (f105 16 (by decide)) 1) (congrFun (f105 16 (by decide)) 2) (f105 17 (by decide)) I15
      have I124 : jI18 σ103 := jI18_fr ((congrFun (f105 18 (by decide)) 0).trans (congrFun (f10 18 (by decide)) 0)) ((f105 19 (by decide)).trans (f10 19 (by decide))) hI18
      have I125 : jI22 σ103 := jI22_fr ((congrFun (f105 22 (by decide)) 0).trans (congrFun (f10 22 (by decide)) 0)) ((f105 23 (by decide)).trans (f10 23 (by decide))) hI22
      have I126 : jI31 σ103 := jI31_fr ((congrFun (f105 31 (by decide)) 8).trans (congrFun (f10 31 (by decide)) 8)) ((f105 33 (by decide)).trans (f10 33 (by decide))) ((f105 36 (by decide)).trans (f10 36 (by decide))) hI31
      have I127 : jI38 σ103 := jI38_fr ((congrFun (f105 38 (by decide)) 0).trans (congrFun (f10 38 (by decide)) 0)) ((congrFun (f105 38 (by decide)) 1).trans (congrFun (f10 38 (by decide)) 1)) ((f105 39 (by decide)).trans (f10 39 (by decide))) hI38
      have I128 : jI43 σ103 := jI43_fr ((congrFun (f105 43 (by decide)) 8).trans (congrFun (f10 43 (by decide)) 8)) hI43
      have I129 : jI47 σ103 := jI47_fr (congrFun (f105 47 (by decide)) 0) (f105 48 (by decide)) (f105 49 (by decide)) I16
      have I130 : jI50 σ103 := jI50_fr ((f105 52 (by decide)).trans (f10 52 (by decide))) hI50
      have I131 : jI101 σ103 := jI101_fr ((f106 4 (by decide)).trans (congrFun (f10 55 (by decide)) 4)) ((f106 5 (by decide)).trans (congrFun (f10 55 (by decide)) 5)) ((f105 56 (by decide)).trans (f10 56 (by decide))) ((f105 57 (by decide)).trans (f10 57 (by decide))) ((f105 58 (by decide)).trans (f10 58 (by decide))) ((f105 59 (by decide)).trans (f10 59 (by decide))) hI101
      have I132 : jI102 σ103 := jI102_fr ((f106 6 (by decide)).trans (congrFun (f10 55 (by decide)) 6)) ((f105 60 (by decide)).trans (f10 60 (by decide))) ((f105 61 (by decide)).trans (f10 61 (by decide))) hI102
      have I133 : jI103 σ103 := jI103_fr ((f106 9 (by decide)).trans (congrFun (f10 55 (by decide)) 9)) hI103
      have I134 : jI106 σ103 := jI106_fr ((f106 32 (by decide)).trans (congrFun (f10 55 (by decide)) 32)) ((f105 70 (by decide)).trans (f10 70 (by decide))) ((f105 71 (by decide)).trans (f10 71 (by decide))) ((f105 72 (by decide)).trans (f10 72 (by decide))) hI106
      have I135 : jI109 σ103 := jI109_fr ((f106 50 (by decide)).trans (congrFun (f10 55 (by decide)) 50)) hI109
      have I136 : jI110 σ103 := jI110_fr ((f105 86 (by decide)).trans (f10 86 (by decide))) ((f105 87 (by decide)).trans (f10 87 (by decide))) hI110
      have I137 : jI111 σ103 := jI111_fr ((f105 79 (by decide)).trans (f10 79 (by decide))) hI111
      have I138 : jI119 σ103 := jI119_fr ((f105 68 (by decide)).trans (f10 68 (by decide))) hI119
      have p139 : jKept σ103 := jKept.fr ((f105 75 (by decide)).trans (f10 75 (by decide))) ((f105 76 (by decide)).trans (f10 76 (by decide))) ((f105 77 (by decide)).trans (f10 77 (by decide))) hs_jKept
      have z140 : (σ103 38 0).toInt = (σ 38 0).toInt := (congrArg Int32.toInt (show σ103 38 0 = (σ 38 0) from ((congrFun (f105 38 (by decide)) 0).trans (congrFun (f10 38 (by decide)) 0))))
      have z141 : (σ103 55 32).toInt = (σ 55 32).toInt := (congrArg Int32.toInt (show σ103 55 32 = (σ 55 32) from ((f106 32 (by decide)).trans (congrFun (f10 55 (by decide)) 32))))
      exact ih x119 σ103 τ _ _ ls (by have h9 := tx119; omega) ⟨I120, I121, I122, I123, I124, I125, I126, I127, I128, I129, I130, I131, I132, I133, I107, I108, I134, I109, I135, I136, I137, I138, p139, p110, (by omega), (show jShP (σ103 51) (σ103 52) (σ103 53) (σ103 86) (σ103 87) (σ103 55 32).toInt by rw [show σ103 51 = σ 51 from ((f105 51 (by decide)).trans (f10 51 (by decide))), show σ103 52 = σ 52 from ((f105 52 (by decide)).trans (f10 52 (by decide))), show σ103 53 = σ 53 from ((f105 53 (by decide)).trans (f10 53 (by decide))), show σ103 86 = σ 86 from ((f105 86 (by decide)).trans (f10 86 (by decide))), show σ103 87 = σ 87 from ((f105 87 (by decide)).trans (f10 87 (by decide)))]; exact (hr0.up (by omega) (by omega))), (show jKd (σ103 39) (σ103 70) (σ103 55 32).toInt by rw [show σ103 39 = σ 39 from ((f105 39 (by decide)).trans (f10 39 (by decide))), show σ103 70 = σ 70 from ((f105 70 (by decide)).trans (f10 70 (by decide))), show (σ103 55 32).toInt = (σ 55 32).toInt from by omega]; exact hr1)⟩ hP hS (lv_sub hl [0, 1, 2, 3] rfl)
    · obtain ⟨q144, k142, k143⟩ := h115
      refine lv_pop hx hb dL_law_390 rfl ?_
      refine lv_goto (tgt := 1357) hx hb dL_law_391 (by decide) ?_
      obtain ⟨x145, ex145⟩ : ∃ y : Int32, y = x0 + 6 := ⟨_, rfl⟩
      have tx145 : x145.toInt = x0.toInt + 6 := (jadd ex145 rfl jz_6 (by omega) (by omega)).trans (by omega)
      refine lv_iinc (v := x145) (lv' := [(3, .int x145), (2, .ref (ad 55)), (1, .ref (ad 0)), (0, .ref b)]) hx hb dL_law_1357 hl (k := 0) rfl (by rw [ex145]; rfl) (by decide) rfl (fun ls hl => ?_)
      refine lv_goto (tgt := 18) hx hb dL_law_1360 (by decide) ?_
      have I146 : jI2 σ103 := jI2_fr ((congrFun (f105 2 (by decide)) 0).trans (congrFun (f10 2 (by decide)) 0)) ((congrFun (f105 2 (by decide)) 1).trans (congrFun (f10 2 (by decide)) 1)) ((congrFun (f105 2 (by decide)) 2).trans (congrFun (f10 2 (by decide)) 2)) ((congrFun (f105 2 (by decide)) 3).trans (congrFun (f10 2 (by decide)) 3)) ((f105 6 (by decide)).trans (f10 6 (by decide))) hI2
      have I147 : jI9 σ103 := jI9_fr (congrFun (f105 9 (by decide)) 0) (f105 10 (by decide)) (f105 11 (by decide)) I14
      have I148 : jI12 σ103 := jI12_fr ((congrFun (f105 12 (by decide)) 0).trans (congrFun (f10 12 (by decide)) 0)) ((f105 13 (by decide)).trans (f10 13 (by decide))) hI12
      have I149 : jI16 σ103 := jI16_fr (congrFun (f105 16 (by decide)) 0) (congrFun (f105 16 (by decide)) 1) (congrFun (f105 16 (by decide)) 2) (f105 17 (by decide)) I15
      have I150 : jI18 σ103 := jI18_fr ((congrFun (f105 18 (by decide)) 0).trans (congrFun (f10 18 (by decide)) 0)) ((f105 19 (by decide)).trans (f10 19 (by decide))) hI18
      have I151 : jI22 σ103 := jI22_fr ((congrFun (f105 22 (by decide)) 0).trans (congrFun (f10 22 (by decide)) 0)) ((f105 23 (by decide)).trans (f10 23 (by decide))) hI22
      have I152 : jI31 σ103 := jI31_fr ((congrFun (f105 31 (by decide)) 8).trans (congrFun (f10 31 (by decide)) 8)) ((f105 33 (by decide)).trans (f10 33 (by decide))) ((f105 36 (by decide)).trans (f10 36 (by decide))) hI31
      have I153 : jI38 σ103 := jI38_fr ((congrFun (f105 38 (by decide)) 0).trans (congrFun (f10 38 (by decide)) 0)) ((congrFun (f105 38 (by decide)) 1).trans (congrFun (f10 38 (by decide)) 1)) ((f105 39 (by decide)).trans (f10 39 (by decide))) hI38
      have I154 : jI43 σ103 := jI43_fr ((congrFun (f105 43 (by decide)) 8).trans (congrFun (f10 43 (by decide)) 8)) hI43
      have I155 : jI47 σ103 := jI47_fr (congrFun (f105 47 (by decide)) 0) (f105 48 (by decide)) (f105 49 (by decide)) I16
      have I156 : jI50 σ103 := jI50_fr ((f105 52 (by decide)).trans (f10 52 (by decide))) hI50
      have I157 : jI101 σ103 := jI101_fr ((f106 4 (by decide)).trans (congrFun (f10 55 (by decide)) 4)) ((f106 5 (by decide)).trans (congrFun (f10 55 (by decide)) 5)) ((f105 56 (by decide)).trans (f10 56 (by decide))) ((f105 57 (by decide)).trans (f10 57 (by decide))) ((f105 58 (by decide)).trans (f10 58 (by decide))) ((f105 59 (by decide)).trans (f10 59 (by decide))) hI101
      have I158 : jI102 σ103 := jI102_fr ((f106 6 (by decide)).trans (congrFun (f10 55 (by decide)) 6)) ((f105 60 (by decide)).trans (f10 60 (by decide))) ((f105 61 (by decide)).trans (f10 61 (by decide))) hI102
      have I159 : jI103 σ103 := jI103_fr ((f106 9 (by decide)).trans (congrFun (f10 55 (by decide)) 9)) hI103
      have I160 : jI106 σ103 := jI106_fr ((f106 32 (by decide)).trans (congrFun (f10 55 (by decide)) 32)) ((f105 70 (by decide)).trans (f10 70 (by decide))) ((f105 71 (by decide)).trans (f10 71 (by decide))) ((f105 72 (by decide)).trans (f10 72 (by decide))) hI106
      have I161 : jI109 σ103 := jI109_fr ((f106 50 (by decide)).trans (congrFun (f10 55 (by decide)) 50)) hI109
      have I162 : jI110 σ103 := jI110_fr ((f105 86 (by decide)).trans (f10 86 (by decide))) ((f105 87 (by decide)).trans (f10 87 (by decide))) hI110
      have I163 : jI111 σ103 := jI111_fr ((f105 79 (by decide)).trans (f10 79 (by decide))) hI111
      have I164 : jI119 σ103 := jI119_fr ((f105 68 (by decide)).trans (f10 68 (by decide))) hI119
      have p165 : jKept σ103 := jKept.fr ((f105 75 (by decide)).trans (f10 75 (by decide))) ((f105 76 (by decide)).trans (f10 76 (by decide))) ((f105 77 (by decide)).trans (f10 77 (by decide))) hs_jKept
      have z166 : (σ103 38 0).toInt = (σ 38 0).toInt := (congrArg Int32.toInt (show σ103 38 0 = (σ 38 0) from ((congrFun (f105 38 (by decide)) 0).trans (congrFun (f10 38 (by decide)) 0))))
      have z167 : (σ103 55 32).toInt = (σ 55 32).toInt := (congrArg Int32.toInt (show σ103 55 32 = (σ 55 32) from ((f106 32 (by decide)).trans (congrFun (f10 55 (by decide)) 32))))
      exact ih x145 σ103 τ _ _ ls (by have h9 := tx145; omega) ⟨I146, I147, I148, I149, I150, I151, I152, I153, I154, I155, I156, I157, I158, I159, I107, I108, I160, I109, I161, I162, I163, I164, p165, p110, (by omega), (show jShP (σ103 51) (σ103 52) (σ103 53) (σ103 86) (σ103 87) (σ103 55 32).toInt by rw [show σ103 51 = σ 51 from ((f105 51 (by decide)).trans (f10 51 (by decide))), show σ103 52 = σ 52 from ((f105 52 (by decide)).trans (f10 52 (by decide))), show σ103 53 = σ 53 from ((f105 53 (by decide)).trans (f10 53 (by decide))), show σ103 86 = σ 86 from ((f105 86 (by decide)).trans (f10 86 (by decide))), show σ103 87 = σ 87 from ((f105 87 (by decide)).trans (f10 87 (by decide)))]; exact (hr0.up (by omega) (by omega))), (show jKd (σ103 39) (σ103 70) (σ103 55 32).toInt by rw [show σ103 39 = σ 39 from ((f105 39 (by decide)).trans (f10 39 (by decide))), show σ103 70 = σ 70 from ((f105 70 (by decide)).trans (f10 70 (by decide))), show (σ103 55 32).toInt = (σ 55 32).toInt from by omega]; exact hr1)⟩ hP hS (lv_sub hl [0, 1, 2, 3] rfl)
set_option maxHeartbeats 4000000 in
set_option maxRecDepth 100000 in
theorem law_case_6 {p : Program} {e : Env} {s : State} {m : MethodId} {below : List Frame} {meth : Method} {c : Code} (l : Launch) {b L : Nat} {xs : Nat → Int32} {D : va_G} {cI cL : ClassId} {ad zz : Nat → Nat} (C0 : lw_At p s m meth c b L xs) (hJ : jD ad) (hA : ∀ q, jA ad q → s.heap.size ≤ q) (hK : jK D cI cL s) (hZ : jZ zz (fun q : Nat => s.heap.size ≤ q) s s.heap) {x0 : Int32} (hx0 : 0 ≤ x0.toInt) (hxL : x0.toInt + 6 ≤ (L : Int)) (hL : L ≤ 384) {σ : Nat → Nat → Int32} {τ : Nat → Nat → Int64} {H : Heap} {locs : List Loc} (hS : va_S (fun q : Nat => s.heap.size ≤ q) s.heap H locs) {ls : Array Slot} (hAll : jAll σ τ) (hP : jH D cI cL ad σ τ H) (hl : lv_has ls 4 [(3, .int x0), (2, .ref (ad 55)), (1, .ref (ad 0)), (0, .ref b)]) (ih : ∀ (x1 : Int32) (σ : Nat → Nat → Int32) (τ : Nat → Nat → Int64) (H : Heap) (locs : List Loc) (ls : Array Slot), x1.toInt = x0.toInt + 6 → jAll σ τ → jH D cI cL ad σ τ H → va_S (fun q : Nat => s.heap.size ≤ q) s.heap H locs → lv_has ls 4 [(3, .int x1), (2, .ref (ad 55)), (1, .ref (ad 0)), (0, .ref b)] → W p l e room_1 s m #[Value.ref b] below meth c H locs 90 348600 (lw_Z below #[Value.ref b] s) (F0 m 18 ls [])) : W p l e room_1 s m #[Value.ref b] below meth c H locs 90 348600 (lw_Z below #[Value.ref b] s) (F0 m 394 ls []) := by
  obtain ⟨hx, hb, hr, hml, hown, hts0, hX, hbl, hlocks, hgv⟩ := C0
  have hts : ∀ w ∈ wsL_law, w.before #[Value.ref b] s = true := fun w h => hts0 w (wsL_law_in w h)
  have hbA : ¬ (fun q : Nat => s.heap.size ≤ q) b := Nat.not_le.mpr hbl
  have hown : s.vm.findClass RL = some m.cls := hown
  obtain ⟨hI2, hI9, hI12, hI16, hI18, hI22, hI31, hI38, hI43, hI47, hI50, hI101, hI102, hI103, hI104, hI105, hI106, hI107, hI109, hI110, hI111, hI119, hs_jKept, hs_jBook, ht0, hr0, hr1⟩ := hAll
  have hL9 : (L : Int) ≤ 384 := by omega
  obtain ⟨i1, i2, w3⟩ : (0 ≤ (σ 38 0).toInt ∧ (σ 38 0).toInt ≤ 20) ∧ (0 ≤ (σ 38 1).toInt ∧ (σ 38 1).toInt ≤ 1000) ∧ (∀ k : Nat, k < 20 → 0 ≤ (σ 39 k).toInt ∧ (σ 39 k).toInt ≤ 6) := id hI38
  obtain ⟨i4, w5, w6, w7⟩ : (0 ≤ (σ 55 32).toInt ∧ (σ 55 32).toInt ≤ 20) ∧ (∀ k : Nat, k < 20 → 0 ≤ (σ 70 k).toInt ∧ (σ 70 k).toInt ≤ 6) ∧ (∀ k : Nat, k < 20 → 0 ≤ (σ 71 k).toInt ∧ (σ 71 k).toInt ≤ 8) ∧ (∀ k : Nat, k < 160 → 0 ≤ (σ 72 k).toInt ∧ (σ 72 k).toInt ≤ 3) := id hI106
  refine lv_aload_n hx hb dL_law_394 rfl (lv_at hl 2 rfl) ?_
  refine lv_aload_n hx hb dL_law_395 rfl (lv_at hl 3 rfl) ?_
  refine lv_iload_n hx hb dL_law_396 rfl (lv_at hl 0 rfl) ?_
  refine lv_iconst (v := 1) hx hb dL_law_397 (by decide) ?_
  have g8 := jrg (rfl : x0.toInt = x0.toInt)
  refine lv_iadd hx hb dL_law_398 ?_
  refine lv_topi (fun x9 ex9 => ?_)
  have tx9 : x9.toInt = x0.toInt + 1 := (jadd ex9 rfl jz_1 (by omega) (by omega)).trans (by omega)
  refine va_sld hx hb hX hbl hbA hS (jin tx9 (by omega) (by omega)) dL_law_399 ?_
  have g10 := jrg (rfl : (xs x9.toNatClampNeg).toInt = (xs x9.toNatClampNeg).toInt)
  refine jcallV (As := [.int (xs x9.toNatClampNeg)]) (rest := []) ⟨hx, hb, hml, hown, hts⟩ hK hP hA hS hZ (c_X11_text l D cI cL ad zz hJ σ τ (xs x9.toNatClampNeg) ((xs x9.toNatClampNeg).toInt) rfl hI9 hI12 hI18 hI22) cw_RL_41 (jc_0 cI cL ad σ τ) rfl ⟨Nat.le_of_ble_eq_true rfl, Nat.le_of_ble_eq_true rfl⟩ rfl rfl rfl hl.1 rfl (Nat.le_of_ble_eq_true rfl) dL_law_400 ⟨Nat.le_of_ble_eq_true rfl, Nat.le_of_ble_eq_true rfl⟩ (fun r12 σ11 τ11 H locs h11 hP hS => ?_)
  obtain ⟨rfl, f13, f14, f15, f16, f17, f18, I19, I20, I21, I22, h11⟩ := h11
  obtain ⟨k24, h11⟩ := h11
  refine lv_pop hx hb dL_law_403 rfl ?_
  refine lv_aload_n hx hb dL_law_404 rfl (lv_at hl 1 rfl) ?_
  refine lv_aload_n hx hb dL_law_405 rfl (lv_at hl 3 rfl) ?_
  refine lv_iload_n hx hb dL_law_406 rfl (lv_at hl 0 rfl) ?_
  refine lv_iconst (v := 1) hx hb dL_law_407 (by decide) ?_
  refine lv_iadd hx hb dL_law_408 ?_
  refine jtopr ex9.symm ?_
  refine va_sld hx hb hX hbl hbA hS (jin tx9 (by omega) (by omega)) dL_law_409 ?_
  have I25 : jI105 σ11 := jI105_fr (congrFun (f13 55 (by decide)) 15) (f13 65 (by decide)) hI105
  have z26 : (σ11 55 15).toInt = (σ 55 15).toInt := (congrArg Int32.toInt (show σ11 55 15 = (σ 55 15) from (congrFun (f13 55 (by decide)) 15)))
  refine jcallV (As := [.int (xs x9.toNatClampNeg)]) (rest := []) ⟨hx, hb, hml, hown, hts⟩ hK hP hA hS hZ (c_X12_text l D cI cL ad zz hJ σ11 τ (xs x9.toNatClampNeg) ((xs x9.toNatClampNeg).toInt) rfl I25) cw_RL_44 (jc_55 cI cL ad σ11 τ) rfl ⟨Nat.le_of_ble_eq_true rfl, Nat.le_of_ble_eq_true rfl⟩ rfl rfl rfl hl.1 rfl (Nat.le_of_ble_eq_true rfl) dL_law_410 ⟨Nat.le_of_ble_eq_true rfl, Nat.le_of_ble_eq_true rfl⟩ (fun r28 σ27 τ27 H locs h27 hP hS => ?_)
  obtain ⟨rfl, f29, f30, I31, h27⟩ := h27
  obtain ⟨k33, h27⟩ := h27
  refine lv_pop hx hb dL_law_413 rfl ?_
  refine lv_goto (tgt := 1357) hx hb dL_law_414 (by decide) ?_
  obtain ⟨x34, ex34⟩ : ∃ y : Int32, y = x0 + 6 := ⟨_, rfl⟩
  have tx34 : x34.toInt = x0.toInt + 6 := (jadd ex34 rfl jz_6 (by omega) (by omega)).trans (by omega)
  refine lv_iinc (v := x34) (lv' := [(3, .int x34), (2, .ref (ad 55)), (1, .ref (ad 0)), (0, .ref b)]) hx hb dL_law_1357 hl (k := 0) rfl (by rw [ex34]; rfl) (by decide) rfl (fun ls hl => ?_)
  refine lv_goto (tgt := 18) hx hb dL_law_1360 (by decide) ?_
  have I35 : jI2 σ27 := jI2_fr ((congrFun (f29 2 (by decide)) 0).trans (congrFun (f13 2 (by decide)) 0)) ((congrFun (f29 2 (by decide)) 1).trans (congrFun (f13 2 (by decide)) 1)) ((congrFun (f29 2 (by decide)) 2).trans (congrFun (f13 2 (by decide)) 2)) ((congrFun (f29 2 (by decide)) 3).trans (congrFun (f13 2 (by decide)) 3)) ((f29 6 (by decide)).trans (f13 6 (by decide))) hI2
  have I36 : jI9 σ27 := jI9_fr (congrFun (f29 9 (by decide)) 0) (f29 10 (by decide)) (f29 11 (by decide)) I19
  have I37 : jI12 σ27 := jI12_fr (congrFun (f29 12 (by decide)) 0) (f29 13 (by decide)) I20
  have I38 : jI16 σ27 := jI16_fr ((congrFun (f29 16 (by decide)) 0).trans (congrFun (f13 16 (by decide)) 0)) ((congrFun (f29 16 (by decide)) 1).trans (congrFun (f13 16 (by decide)) 1)) ((congrFun (f29 16 (by decide)) 2).trans (congrFun (f13 16 (by decide)) 2)) ((f29 17 (by decide)).trans (f13 17 (by decide))) hI16
  have I39 : jI18 σ27 := jI18_fr (congrFun (f29 18 (by decide)) 0) (f29 19 (by decide)) I21
  have I40 : jI22 σ27 := jI22_fr (congrFun (f29 22 (by decide)) 0) (f29 23 (by decide)) I22
  have I41 : jI31 σ27 := jI31_fr ((congrFun (f29 31 (by decide)) 8).trans (congrFun (f13 31 (by decide)) 8)) ((f29 33 (by decide)).trans (f13 33 (by decide))) ((f29 36 (by decide)).trans (f13 36 (by decide))) hI31
  have I42 : jI38 σ27 := jI38_fr ((congrFun (f29 38 (by decide)) 0).trans (congrFun (f13 38 (by decide)) 0)) ((congrFun (f29 38 (by decide)) 1).trans (congrFun (f13 38 (by decide)) 1)) ((f29 39 (by decide)).trans (f13 39 (by decide))) hI38
  have I43 : jI43 σ27 := jI43_fr ((congrFun (f29 43 (by decide)) 8).trans (congrFun (f13 43 (by decide)) 8)) hI43
  have I44 : jI47 σ27 := jI47_fr ((congrFun (f29 47 (by decide)) 0).trans (congrFun (f13 47 (by decide)) 0)) ((f29 48 (by decide)).trans (f13 48 (by decide))) ((f29 49 (by decide)).trans (f13 49 (by decide))) hI47
  have I45 : jI50 σ27 := jI50_fr ((f29 52 (by decide)).trans (f13 52 (by decide))) hI50
  have I46 : jI101 σ27 := jI101_fr ((f30 4 (by decide)).trans (congrFun (f13 55 (by decide)) 4)) ((f30 5 (by decide)).trans (congrFun (f13 55 (by decide)) 5)) ((f29 56 (by decide)).trans (f13 56 (by decide))) ((f29 57 (by decide)).trans (f13 57 (by decide))) ((f29 58 (by decide)).trans (f13 58 (by decide))) ((f29 59 (by decide)).trans (f13 59 (by decide))) hI101
  have I47 : jI102 σ27 := jI102_fr ((f30 6 (by decide)).trans (congrFun (f13 55 (by decide)) 6)) ((f29 60 (by decide)).trans (f13 60 (by decide))) ((f29 61 (by decide)).trans (f13 61 (by decide))) hI102
  have I48 : jI103 σ27 := jI103_fr ((f30 9 (by decide)).trans (congrFun (f13 55 (by decide)) 9)) hI103
  have I49 : jI104 σ27 := jI104_fr ((f30 10 (by decide)).trans (congrFun (f13 55 (by decide)) 10)) ((f30 12 (by decide)).trans (congrFun (f13 55 (by decide)) 12)) ((f30 13 (by decide)).trans (congrFun (f13 55 (by decide)) 13)) ((f29 62 (by decide)).trans (f13 62 (by decide))) ((f29 67 (by decide)).trans (f13 67 (by decide))) hI104
  have I50 : jI106 σ27 := jI106_fr ((f30 32 (by decide)).trans (congrFun (f13 55 (by decide)) 32)) ((f29 70 (by decide)).trans (f13 70 (by decide))) ((f29 71 (by decide)).trans (f13 71 (by decide))) ((f29 72 (by decide)).trans (f13 72 (by decide))) hI106
  have I51 : jI107 σ27 := jI107_fr ((f30 12 (by decide)).trans (congrFun (f13 55 (by decide)) 12)) ((f30 47 (by decide)).trans (congrFun (f13 55 (by decide)) 47)) ((f29 80 (by decide)).trans (f13 80 (by decide))) hI107
  have I52 : jI109 σ27 := jI109_fr ((f30 50 (by decide)).trans (congrFun (f13 55 (by decide)) 50)) hI109
  have I53 : jI110 σ27 := jI110_fr ((f29 86 (by decide)).trans (f13 86 (by decide))) ((f29 87 (by decide)).trans (f13 87 (by decide))) hI110
  have I54 : jI111 σ27 := jI111_fr ((f29 79 (by decide)).trans (f13 79 (by decide))) hI111
  have I55 : jI119 σ27 := jI119_fr ((f29 68 (by decide)).trans (f13 68 (by decide))) hI119
  have p56 : jKept σ27 := jKept.fr ((f29 75 (by decide)).trans (f13 75 (by decide))) ((f29 76 (by decide)).trans (f13 76 (by decide))) ((f29 77 (by decide)).trans (f13 77 (by decide))) hs_jKept
  have p57 : jBook σ27 := jBook.fr ((f30 47 (by decide)).trans (congrFun (f13 55 (by decide)) 47)) ((f30 10 (by decide)).trans (congrFun (f13 55 (by decide)) 10)) ((f29 81 (by decide)).trans (f13 81 (by decide))) hs_jBook
  have z58 : (σ27 38 0).toInt = (σ 38 0).toInt := (congrArg Int32.toInt (show σ27 38 0 = (σ 38 0) from ((congrFun (f29 38 (by decide)) 0).trans (congrFun (f13 38 (by decide)) 0))))
  have z59 : (σ27 55 32).toInt = (σ 55 32).toInt := (congrArg Int32.toInt (show σ27 55 32 = (σ 55 32) from ((f30 32 (by decide)).trans (congrFun (f13 55 (by decide)) 32))))
  exact ih x34 σ27 τ _ _ ls (by have h9 := tx34; omega) ⟨I35, I36, I37, I38, I39, I40, I41, I42, I43, I44, I45, I46, I47, I48, I49, I31, I50, I51, I52, I53, I54, I55, p56, p57, (by omega), (show jShP (σ27 51) (σ27 52) (σ27 53) (σ27 86) (σ27 87) (σ27 55 32).toInt by rw [show σ27 51 = σ 51 from ((f29 51 (by decide)).trans (f13 51 (by decide))), show σ27 52 = σ 52 from ((f29 52 (by decide)).trans (f13 52 (by decide))), show σ27 53 = σ 53 from ((f29 53 (by decide)).trans (f13 53 (by decide))), show σ27 86 = σ 86 from ((f29 86 (by decide)).trans (f13 86 (by decide))), show σ27 87 = σ 87 from ((f29 87 (by decide)).trans (f13 87 (by decide)))]; exact (hr0.up (by omega) (by omega))), (show jKd (σ27 39) (σ27 70) (σ27 55 32).toInt by rw [show σ27 39 = σ 39 from ((f29 39 (by decide)).trans (f13 39 (by decide))), show σ27 70 = σ 70 from ((f29 70 (by decide)).trans (f13 70 (by decide))), show (σ27 55 32).toInt = (σ 55 32).toInt from by omega]; exact hr1)⟩ hP hS (lv_sub hl [0, 1, 2, 3] rfl)
set_option maxHeartbeats 4000000 in
set_option maxRecDepth 100000 in
theorem law_case_7 {p : Program} {e : Env} {s : State} {m : MethodId} {below : List Frame} {meth : Method} {c : Code} (l : Launch) {b L : Nat} {xs : Nat → Int32} {D : va_G} {cI cL : ClassId} {ad zz : Nat → Nat} (C0 : lw_At p s m meth c b L xs) (hJ : jD ad) (hA : ∀ q, jA ad q → s.heap.size ≤ q) (hK : jK D cI cL s) (hZ : jZ zz (fun q : Nat => s.heap.size ≤ q) s s.heap) {x0 : Int32} (hx0 : 0 ≤ x0.toInt) (hxL : x0.toInt + 6 ≤ (L : Int)) (hL : L ≤ 384) {σ : Nat → Nat → Int32} {τ : Nat → Nat → Int64} {H : Heap} {locs : List Loc} (hS : va_S (fun q : Nat => s.heap.size ≤ q) s.heap H locs) {ls : Array Slot} (hAll : jAll σ τ) (hP : jH D cI cL ad σ τ H) (hl : lv_has ls 4 [(3, .int x0), (2, .ref (ad 55)), (1, .ref (ad 0)), (0, .ref b)]) (ih : ∀ (x1 : Int32) (σ : Nat → Nat → Int32) (τ : Nat → Nat → Int64) (H : Heap) (locs : List Loc) (ls : Array Slot), x1.toInt = x0.toInt + 6 → jAll σ τ → jH D cI cL ad σ τ H → va_S (fun q : Nat => s.heap.size ≤ q) s.heap H locs → lv_has ls 4 [(3, .int x1), (2, .ref (ad 55)), (1, .ref (ad 0)), (0, .ref b)] → W p l e room_1 s m #[Value.ref b] below meth c H locs 90 348600 (lw_Z below #[Value.ref b] s) (F0 m 18 ls [])) : W p l e room_1 s m #[Value.ref b] below meth c H locs 90 348600 (lw_Z below #[Value.ref b] s) (F0 m 417 ls []) := by
  obtain ⟨hx, hb, hr, hml, hown, hts0, hX, hbl, hlocks, hgv⟩ := C0
  have hts : ∀ w ∈ wsL_law, w.before #[Value.ref b] s = true := fun w h => hts0 w (wsL_law_in w h)
  have hbA : ¬ (fun q : Nat => s.heap.size ≤ q) b := Nat.not_le.mpr hbl
  have hown : s.vm.findClass RL = some m.cls := hown
  obtain ⟨hI2, hI9, hI12, hI16, hI18, hI22, hI31, hI38, hI43, hI47, hI50, hI101, hI102, hI103, hI104, hI105, hI106, hI107, hI109, hI110, hI111, hI119, hs_jKept, hs_jBook, ht0, hr0, hr1⟩ := hAll
  have hL9 : (L : Int) ≤ 384 := by omega
  obtain ⟨i1, i2, w3⟩ : (0 ≤ (σ 38 0).toInt ∧ (σ 38 0).toInt ≤ 20) ∧ (0 ≤ (σ 38 1).toInt ∧ (σ 38 1).toInt ≤ 1000) ∧ (∀ k : Nat, k < 20 → 0 ≤ (σ 39 k).toInt ∧ (σ 39 k).toInt ≤ 6) := id hI38
  obtain ⟨i4, w5, w6, w7⟩ : (0 ≤ (σ 55 32).toInt ∧ (σ 55 32).toInt ≤ 20) ∧ (∀ k : Nat, k < 20 → 0 ≤ (σ 70 k).toInt ∧ (σ 70 k).toInt ≤ 6) ∧ (∀ k : Nat, k < 20 → 0 ≤ (σ 71 k).toInt ∧ (σ 71 k).toInt ≤ 8) ∧ (∀ k : Nat, k < 160 → 0 ≤ (σ 72 k).toInt ∧ (σ 72 k).toInt ≤ 3) := id hI106
  refine lv_aload_n hx hb dL_law_417 rfl (lv_at hl 2 rfl) ?_
  refine lv_aload_n hx hb dL_law_418 rfl (lv_at hl 3 rfl) ?_
  refine lv_iload_n hx hb dL_law_419 rfl (lv_at hl 0 rfl) ?_
  refine lv_iconst (v := 1) hx hb dL_law_420 (by decide) ?_
  have g8 := jrg (rfl : x0.toInt = x0.toInt)
  refine lv_iadd hx hb dL_law_421 ?_
  refine lv_topi (fun x9 ex9 => ?_)
  have tx9 : x9.toInt = x0.toInt + 1 := (jadd ex9 rfl jz_1 (by omega) (by omega)).trans (by omega)
  refine va_sld hx hb hX hbl hbA hS (jin tx9 (by omega) (by omega)) dL_law_422 ?_
  have g10 := jrg (rfl : (xs x9.toNatClampNeg).toInt = (xs x9.toNatClampNeg).toInt)
  refine jcallV (As := [.int (xs x9.toNatClampNeg)]) (rest := []) ⟨hx, hb, hml, hown, hts⟩ hK hP hA hS hZ (c_X11_of l D cI cL ad zz hJ σ τ (xs x9.toNatClampNeg) ((xs x9.toNatClampNeg).toInt) rfl hI16) cw_RL_45 (jc_0 cI cL ad σ τ) rfl ⟨Nat.le_of_ble_eq_true rfl, Nat.le_of_ble_eq_true rfl⟩ rfl rfl rfl hl.1 rfl (Nat.le_of_ble_eq_true rfl) dL_law_423 ⟨Nat.le_of_ble_eq_true rfl, Nat.le_of_ble_eq_true rfl⟩ (fun r12 σ11 τ11 H locs h11 hP hS => ?_)
  obtain ⟨⟨rfl, rfl⟩, h11⟩ := h11
  rcases h11 with h13 | h14 | h15 | h16 | h17
  · obtain ⟨q20, k18, k19⟩ := h13
    refine lv_pop hx hb dL_law_426 rfl ?_
    refine lv_aload_n hx hb dL_law_427 rfl (lv_at hl 1 rfl) ?_
    refine lv_aload_n hx hb dL_law_428 rfl (lv_at hl 3 rfl) ?_
    refine lv_iload_n hx hb dL_law_429 rfl (lv_at hl 0 rfl) ?_
    refine lv_iconst (v := 1) hx hb dL_law_430 (by decide) ?_
    refine lv_iadd hx hb dL_law_431 ?_
    refine jtopr ex9.symm ?_
    refine va_sld hx hb hX hbl hbA hS (jin tx9 (by omega) (by omega)) dL_law_432 ?_
    refine jcallV (As := [.int (xs x9.toNatClampNeg)]) (rest := []) ⟨hx, hb, hml, hown, hts⟩ hK hP hA hS hZ (c_X12_of l D cI cL ad zz hJ σ τ (xs x9.toNatClampNeg) ((xs x9.toNatClampNeg).toInt) rfl hI104 hI107) cw_RL_48 (jc_55 cI cL ad σ τ) rfl ⟨Nat.le_of_ble_eq_true rfl, Nat.le_of_ble_eq_true rfl⟩ rfl rfl rfl hl.1 rfl (Nat.le_of_ble_eq_true rfl) dL_law_433 ⟨Nat.le_of_ble_eq_true rfl, Nat.le_of_ble_eq_true rfl⟩ (fun r22 σ21 τ21 H locs h21 hP hS => ?_)
    obtain ⟨⟨rfl, rfl⟩, h21⟩ := h21
    rcases h21 with h23 | h24 | h25 | h26 | h27
    · obtain ⟨q30, k28, k29⟩ := h23
      refine lv_pop hx hb dL_law_436 rfl ?_
      refine lv_goto (tgt := 1357) hx hb dL_law_437 (by decide) ?_
      obtain ⟨x31, ex31⟩ : ∃ y : Int32, y = x0 + 6 := ⟨_, rfl⟩
      have tx31 : x31.toInt = x0.toInt + 6 := (jadd ex31 rfl jz_6 (by omega) (by omega)).trans (by omega)
      refine lv_iinc (v := x31) (lv' := [(3, .int x31), (2, .ref (ad 55)), (1, .ref (ad 0)), (0, .ref b)]) hx hb dL_law_1357 hl (k := 0) rfl (by rw [ex31]; rfl) (by decide) rfl (fun ls hl => ?_)
      refine lv_goto (tgt := 18) hx hb dL_law_1360 (by decide) ?_
      exact ih x31 σ τ _ _ ls (by have h9 := tx31; omega) ⟨hI2, hI9, hI12, hI16, hI18, hI22, hI31, hI38, hI43, hI47, hI50, hI101, hI102, hI103, hI104, hI105, hI106, hI107, hI109, hI110, hI111, hI119, hs_jKept, hs_jBook, (by omega), hr0, hr1⟩ hP hS (lv_sub hl [0, 1, 2, 3] rfl)
    · obtain ⟨q34, k32, k33⟩ := h24
      exact absurd (by omega : False) id
    · obtain ⟨q37, k35, k36⟩ := h25
      exact absurd (by omega : False) id
    · obtain ⟨q41, k38, k39, k40⟩ := h26
      exact absurd (by omega : False) id
    · obtain ⟨q43, k42⟩ := h27
      exact absurd (by omega : False) id
  · obtain ⟨q46, k44, k45⟩ := h14
    refine lv_pop hx hb dL_law_426 rfl ?_
    refine lv_aload_n hx hb dL_law_427 rfl (lv_at hl 1 rfl) ?_
    refine lv_aload_n hx hb dL_law_428 rfl (lv_at hl 3 rfl) ?_
    refine lv_iload_n hx hb dL_law_429 rfl (lv_at hl 0 rfl) ?_
    refine lv_iconst (v := 1) hx hb dL_law_430 (by decide) ?_
    refine lv_iadd hx hb dL_law_431 ?_
    refine jtopr ex9.symm ?_
    refine va_sld hx hb hX hbl hbA hS (jin tx9 (by omega) (by omega)) dL_law_432 ?_
    refine jcallV (As := [.int (xs x9.toNatClampNeg)]) (rest := []) ⟨hx, hb, hml, hown, hts⟩ hK hP hA hS hZ (c_X12_of l D cI cL ad zz hJ σ τ (xs x9.toNatClampNeg) ((xs x9.toNatClampNeg).toInt) rfl hI104 hI107) cw_RL_48 (jc_55 cI cL ad σ τ) rfl ⟨Nat.le_of_ble_eq_true rfl, Nat.le_of_ble_eq_true rfl⟩ rfl rfl rfl hl.1 rfl (Nat.le_of_ble_eq_true rfl) dL_law_433 ⟨Nat.le_of_ble_eq_true rfl, Nat.le_of_ble_eq_true rfl⟩ (fun r48 σ47 τ47 H locs h47 hP hS => ?_)
    obtain ⟨⟨rfl, rfl⟩, h47⟩ := h47
    rcases h47 with h49 | h50 | h51 | h52 | h53
    · obtain ⟨q56, k54, k55⟩ := h49
      exact absurd (by omega : False) id
    · obtain ⟨q59, k57, k58⟩ := h50
      refine lv_pop hx hb dL_law_436 rfl ?_
      refine lv_goto (tgt := 1357) hx hb dL_law_437 (by decide) ?_
      obtain ⟨x60, ex60⟩ : ∃ y : Int32, y = x0 + 6 := ⟨_, rfl⟩
      have tx60 : x60.toInt = x0.toInt + 6 := (jadd ex60 rfl jz_6 (by omega) (by omega)).trans (by omega)
      refine lv_iinc (v := x60) (lv' := [(3, .int x60), (2, .ref (ad 55)), (1, .ref (ad 0)), (0, .ref b)]) hx hb dL_law_1357 hl (k := 0) rfl (by rw [ex60]; rfl) (by decide) rfl (fun ls hl => ?_)
      refine lv_goto (tgt := 18) hx hb dL_law_1360 (by decide) ?_
      exact ih x60 σ τ _ _ ls (by have h9 := tx60; omega) ⟨hI2, hI9, hI12, hI16, hI18, hI22, hI31, hI38, hI43, hI47, hI50, hI101, hI102, hI103, hI104, hI105, hI106, hI107, hI109, hI110, hI111, hI119, hs_jKept, hs_jBook, (by omega), hr0, hr1⟩ hP hS (lv_sub hl [0, 1, 2, 3] rfl)
    · obtain ⟨q63, k61, k62⟩ := h51
      exact absurd (by omega : False) id
    · obtain ⟨q67, k64, k65, k66⟩ := h52
      exact absurd (by omega : False) id
    · obtain ⟨q69, k68⟩ := h53
      exact absurd (by omega : False) id
  · obtain ⟨q72, k70, k71⟩ := h15
    refine lv_pop hx hb dL_law_426 rfl ?_
    refine lv_aload_n hx hb dL_law_427 rfl (lv_at hl 1 rfl) ?_
    refine lv_aload_n hx hb dL_law_428 rfl (lv_at hl 3 rfl) ?_
    refine lv_iload_n hx hb dL_law_429 rfl (lv_at hl 0 rfl) ?_
    refine lv_iconst (v := 1) hx hb dL_law_430 (by decide) ?_
    refine lv_iadd hx hb dL_law_431 ?_
    refine jtopr ex9.symm ?_
    refine va_sld hx hb hX hbl hbA hS (jin tx9 (by omega) (by omega)) dL_law_432 ?_
    refine jcallV (As := [.int (xs x9.toNatClampNeg)]) (rest := []) ⟨hx, hb, hml, hown, hts⟩ hK hP hA hS hZ (c_X12_of l D cI cL ad zz hJ σ τ (xs x9.toNatClampNeg) ((xs x9.toNatClampNeg).toInt) rfl hI104 hI107) cw_RL_48 (jc_55 cI cL ad σ τ) rfl ⟨Nat.le_of_ble_eq_true rfl, Nat.le_of_ble_eq_true rfl⟩ rfl rfl rfl hl.1 rfl (Nat.le_of_ble_eq_true rfl) dL_law_433 ⟨Nat.le_of_ble_eq_true rfl, Nat.le_of_ble_eq_true rfl⟩ (fun r74 σ73 τ73 H locs h73 hP hS => ?_)
    obtain ⟨⟨rfl, rfl⟩, h73⟩ := h73
    rcases h73 with h75 | h76 | h77 | h78 | h79
    · obtain ⟨q82, k80, k81⟩ := h75
      exact absurd (by omega : False) id
    · obtain ⟨q85, k83, k84⟩ := h76
      exact absurd (by omega : False) id
    · obtain ⟨q88, k86, k87⟩ := h77
      refine lv_pop hx hb dL_law_436 rfl ?_
      refine lv_goto (tgt := 1357) hx hb dL_law_437 (by decide) ?_
      obtain ⟨x89, ex89⟩ : ∃ y : Int32, y = x0 + 6 := ⟨_, rfl⟩
      have tx89 : x89.toInt = x0.toInt + 6 := (jadd ex89 rfl jz_6 (by omega) (by omega)).trans (by omega)
      refine lv_iinc (v := x89) (lv' := [(3, .int x89), (2, .ref (ad 55)), (1, .ref (ad 0)), (0, .ref b)]) hx hb dL_law_1357 hl (k := 0) rfl (by rw [ex89]; rfl) (by decide) rfl (fun ls hl => ?_)
      refine lv_goto (tgt := 18) hx hb dL_law_1360 (by decide) ?_
      exact ih x89 σ τ _ _ ls (by have h9 := tx89; omega) ⟨hI2, hI9, hI12, hI16, hI18, hI22, hI31, hI38, hI43, hI47, hI50, hI101, hI102, hI103, hI104, hI105, hI106, hI107, hI109, hI110, hI111, hI119, hs_jKept, hs_jBook, (by omega), hr0, hr1⟩ hP hS (lv_sub hl [0, 1, 2, 3] rfl)
    · obtain ⟨q93, k90, k91, k92⟩ := h78
      exact absurd (by omega : False) id
    · obtain ⟨q95, k94⟩ := h79
      exact absurd (by omega : False) id
  · obtain ⟨q99, k96, k97, k98⟩ := h16
    refine lv_pop hx hb dL_law_426 rfl ?_
    refine lv_aload_n hx hb dL_law_427 rfl (lv_at hl 1 rfl) ?_
    refine lv_aload_n hx hb dL_law_428 rfl (lv_at hl 3 rfl) ?_
    refine lv_iload_n hx hb dL_law_429 rfl (lv_at hl 0 rfl) ?_
    refine lv_iconst (v := 1) hx hb dL_law_430 (by decide) ?_
    refine lv_iadd hx hb dL_law_431 ?_
    refine jtopr ex9.symm ?_
    refine va_sld hx hb hX hbl hbA hS (jin tx9 (by omega) (by omega)) dL_law_432 ?_
    refine jcallV (As := [.int (xs x9.toNatClampNeg)]) (rest := []) ⟨hx, hb, hml, hown, hts⟩ hK hP hA hS hZ (c_X12_of l D cI cL ad zz hJ σ τ (xs x9.toNatClampNeg) ((xs x9.toNatClampNeg).toInt) rfl hI104 hI107) cw_RL_48 (jc_55 cI cL ad σ τ) rfl ⟨Nat.le_of_ble_eq_true rfl, Nat.le_of_ble_eq_true rfl⟩ rfl rfl rfl hl.1 rfl (Nat.le_of_ble_eq_true rfl) dL_law_433 ⟨Nat.le_of_ble_eq_true rfl, Nat.le_of_ble_eq_true rfl⟩ (fun r101 σ100 τ100 H locs h100 hP hS => ?_)
    obtain ⟨⟨rfl, rfl⟩, h100⟩ := h100
    rcases h100 with h102 | h103 | h104 | h105 | h106
    · obtain ⟨q109, k107, k108⟩ := h102
      exact absurd (by omega : False) id
    · obtain ⟨q112, k110, k111⟩ := h103
      exact absurd (by omega : False) id
    · obtain ⟨q115, k113, k114⟩ := h104
      exact absurd (by omega : False) id
    · obtain ⟨q119, k116, k117, k118⟩ := h105
      refine lv_pop hx hb dL_law_436 rfl ?_
      refine lv_goto (tgt := 1357) hx hb dL_law_437 (by decide) ?_
      obtain ⟨x120, ex120⟩ : ∃ y : Int32, y = x0 + 6 := ⟨_, rfl⟩
      have tx120 : x120.toInt = x0.toInt + 6 := (jadd ex120 rfl jz_6 (by omega) (by omega)).trans (by omega)
      refine lv_iinc (v := x120) (lv' := [(3, .int x120), (2, .ref (ad 55)), (1, .ref (ad 0)), (0, .ref b)]) hx hb dL_law_1357 hl (k := 0) rfl (by rw [ex120]; rfl) (by decide) rfl (fun ls hl => ?_)
      refine lv_goto (tgt := 18) hx hb dL_law_1360 (by decide) ?_
      exact ih x120 σ τ _ _ ls (by have h9 := tx120; omega) ⟨hI2, hI9, hI12, hI16, hI18, hI22, hI31, hI38, hI43, hI47, hI50, hI101, hI102, hI103, hI104, hI105, hI106, hI107, hI109, hI110, hI111, hI119, hs_jKept, hs_jBook, (by omega), hr0, hr1⟩ hP hS (lv_sub hl [0, 1, 2, 3] rfl)
    · obtain ⟨q122, k121⟩ := h106
      have q122 := q122.symm
      subst q122
      refine lv_pop hx hb dL_law_436 rfl ?_
      refine lv_goto (tgt := 1357) hx hb dL_law_437 (by decide) ?_
      obtain ⟨x123, ex123⟩ : ∃ y : Int32, y = x0 + 6 := ⟨_, rfl⟩
      have tx123 : x123.toInt = x0.toInt + 6 := (jadd ex123 rfl jz_6 (by omega) (by omega)).trans (by omega)
      refine lv_iinc (v := x123) (lv' := [(3, .int x123), (2, .ref (ad 55)), (1, .ref (ad 0)), (0, .ref b)]) hx hb dL_law_1357 hl (k := 0) rfl (by rw [ex123]; rfl) (by decide) rfl (fun ls hl => ?_)
      refine lv_goto (tgt := 18) hx hb dL_law_1360 (by decide) ?_
      exact ih x123 σ τ _ _ ls (by have h9 := tx123; omega) ⟨hI2, hI9, hI12, hI16, hI18, hI22, hI31, hI38, hI43, hI47, hI50, hI101, hI102, hI103, hI104, hI105, hI106, hI107, hI109, hI110, hI111, hI119, hs_jKept, hs_jBook, (by omega), hr0, hr1⟩ hP hS (lv_sub hl [0, 1, 2, 3] rfl)
  · obtain ⟨q125, k124⟩ := h17
    have q125 := q125.symm
    subst q125
    refine lv_pop hx hb dL_law_426 rfl ?_
    refine lv_aload_n hx hb dL_law_427 rfl (lv_at hl 1 rfl) ?_
    refine lv_aload_n hx hb dL_law_428 rfl (lv_at hl 3 rfl) ?_
    refine lv_iload_n hx hb dL_law_429 rfl (lv_at hl 0 rfl) ?_
    refine lv_iconst (v := 1) hx hb dL_law_430 (by decide) ?_
    refine lv_iadd hx hb dL_law_431 ?_
    refine jtopr ex9.symm ?_
    refine va_sld hx hb hX hbl hbA hS (jin tx9 (by omega) (by omega)) dL_law_432 ?_
    refine jcallV (As := [.int (xs x9.toNatClampNeg)]) (rest := []) ⟨hx, hb, hml, hown, hts⟩ hK hP hA hS hZ (c_X12_of l D cI cL ad zz hJ σ τ (xs x9.toNatClampNeg) ((xs x9.toNatClampNeg).toInt) rfl hI104 hI107) cw_RL_48 (jc_55 cI cL ad σ τ) rfl ⟨Nat.le_of_ble_eq_true rfl, Nat.le_of_ble_eq_true rfl⟩ rfl rfl rfl hl.1 rfl (Nat.le_of_ble_eq_true rfl) dL_law_433 ⟨Nat.le_of_ble_eq_true rfl, Nat.le_of_ble_eq_true rfl⟩ (fun r127 σ126 τ126 H locs h126 hP hS => ?_)
    obtain ⟨⟨rfl, rfl⟩, h126⟩ := h126
    rcases h126 with h128 | h129 | h130 | h131 | h132
    · obtain ⟨q135, k133, k134⟩ := h128
      exact absurd (by omega : False) id
    · obtain ⟨q138, k136, k137⟩ := h129
      exact absurd (by omega : False) id
    · obtain ⟨q141, k139, k140⟩ := h130
      exact absurd (by omega : False) id
    · obtain ⟨q145, k142, k143, k144⟩ := h131
      refine lv_pop hx hb dL_law_436 rfl ?_
      refine lv_goto (tgt := 1357) hx hb dL_law_437 (by decide) ?_
      obtain ⟨x146, ex146⟩ : ∃ y : Int32, y = x0 + 6 := ⟨_, rfl⟩
      have tx146 : x146.toInt = x0.toInt + 6 := (jadd ex146 rfl jz_6 (by omega) (by omega)).trans (by omega)
      refine lv_iinc (v := x146) (lv' := [(3, .int x146), (2, .ref (ad 55)), (1, .ref (ad 0)), (0, .ref b)]) hx hb dL_law_1357 hl (k := 0) rfl (by rw [ex146]; rfl) (by decide) rfl (fun ls hl => ?_)
      refine lv_goto (tgt := 18) hx hb dL_law_1360 (by decide) ?_
      exact ih x146 σ τ _ _ ls (by have h9 := tx146; omega) ⟨hI2, hI9, hI12, hI16, hI18, hI22, hI31, hI38, hI43, hI47, hI50, hI101, hI102, hI103, hI104, hI105, hI106, hI107, hI109, hI110, hI111, hI119, hs_jKept, hs_jBook, (by omega), hr0, hr1⟩ hP hS (lv_sub hl [0, 1, 2, 3] rfl)
    · obtain ⟨q148, k147⟩ := h132
      have q148 := q148.symm
      subst q148
      refine lv_pop hx hb dL_law_436 rfl ?_
      refine lv_goto (tgt := 1357) hx hb dL_law_437 (by decide) ?_
      obtain ⟨x149, ex149⟩ : ∃ y : Int32, y = x0 + 6 := ⟨_, rfl⟩
      have tx149 : x149.toInt = x0.toInt + 6 := (jadd ex149 rfl jz_6 (by omega) (by omega)).trans (by omega)
      refine lv_iinc (v := x149) (lv' := [(3, .int x149), (2, .ref (ad 55)), (1, .ref (ad 0)), (0, .ref b)]) hx hb dL_law_1357 hl (k := 0) rfl (by rw [ex149]; rfl) (by decide) rfl (fun ls hl => ?_)
      refine lv_goto (tgt := 18) hx hb dL_law_1360 (by decide) ?_
      exact ih x149 σ τ _ _ ls (by have h9 := tx149; omega) ⟨hI2, hI9, hI12, hI16, hI18, hI22, hI31, hI38, hI43, hI47, hI50, hI101, hI102, hI103, hI104, hI105, hI106, hI107, hI109, hI110, hI111, hI119, hs_jKept, hs_jBook, (by omega), hr0, hr1⟩ hP hS (lv_sub hl [0, 1, 2, 3] rfl)
set_option maxHeartbeats 4000000 in
set_option maxRecDepth 100000 in
theorem law_case_8 {p : Program} {e : Env} {s : State} {m : MethodId} {below : List Frame} {meth : Method} {c : Code} (l : Launch) {b L : Nat} {xs : Nat → Int32} {D : va_G} {cI cL : ClassId} {ad zz : Nat → Nat} (C0 : lw_At p s m meth c b L xs) (hJ : jD ad) (hA : ∀ q, jA ad q → s.heap.size ≤ q) (hK : jK D cI cL s) (hZ : jZ zz (fun q : Nat => s.heap.size ≤ q) s s.heap) {x0 : Int32} (hx0 : 0 ≤ x0.toInt) (hxL : x0.toInt + 6 ≤ (L : Int)) (hL : L ≤ 384) {σ : Nat → Nat → Int32} {τ : Nat → Nat → Int64} {H : Heap} {locs : List Loc} (hS : va_S (fun q : Nat => s.heap.size ≤ q) s.heap H locs) {ls : Array Slot} (hAll : jAll σ τ) (hP : jH D cI cL ad σ τ H) (hl : lv_has ls 4 [(3, .int x0), (2, .ref (ad 55)), (1, .ref (ad 0)), (0, .ref b)]) (ih : ∀ (x1 : Int32) (σ : Nat → Nat → Int32) (τ : Nat → Nat → Int64) (H : Heap) (locs : List Loc) (ls : Array Slot), x1.toInt = x0.toInt + 6 → jAll σ τ → jH D cI cL ad σ τ H → va_S (fun q : Nat => s.heap.size ≤ q) s.heap H locs → lv_has ls 4 [(3, .int x1), (2, .ref (ad 55)), (1, .ref (ad 0)), (0, .ref b)] → W p l e room_1 s m #[Value.ref b] below meth c H locs 90 348600 (lw_Z below #[Value.ref b] s) (F0 m 18 ls [])) : W p l e room_1 s m #[Value.ref b] below meth c H locs 90 348600 (lw_Z below #[Value.ref b] s) (F0 m 440 ls []) := by
  obtain ⟨hx, hb, hr, hml, hown, hts0, hX, hbl, hlocks, hgv⟩ := C0
  have hts : ∀ w ∈ wsL_law, w.before #[Value.ref b] s = true := fun w h => hts0 w (wsL_law_in w h)
  have hbA : ¬ (fun q : Nat => s.heap.size ≤ q) b := Nat.not_le.mpr hbl
  have hown : s.vm.findClass RL = some m.cls := hown
  obtain ⟨hI2, hI9, hI12, hI16, hI18, hI22, hI31, hI38, hI43, hI47, hI50, hI101, hI102, hI103, hI104, hI105, hI106, hI107, hI109, hI110, hI111, hI119, hs_jKept, hs_jBook, ht0, hr0, hr1⟩ := hAll
  have hL9 : (L : Int) ≤ 384 := by omega
  obtain ⟨i1, i2, w3⟩ : (0 ≤ (σ 38 0).toInt ∧ (σ 38 0).toInt ≤ 20) ∧ (0 ≤ (σ 38 1).toInt ∧ (σ 38 1).toInt ≤ 1000) ∧ (∀ k : Nat, k < 20 → 0 ≤ (σ 39 k).toInt ∧ (σ 39 k).toInt ≤ 6) := id hI38
  obtain ⟨i4, w5, w6, w7⟩ : (0 ≤ (σ 55 32).toInt ∧ (σ 55 32).toInt ≤ 20) ∧ (∀ k : Nat, k < 20 → 0 ≤ (σ 70 k).toInt ∧ (σ 70 k).toInt ≤ 6) ∧ (∀ k : Nat, k < 20 → 0 ≤ (σ 71 k).toInt ∧ (σ 71 k).toInt ≤ 8) ∧ (∀ k : Nat, k < 160 → 0 ≤ (σ 72 k).toInt ∧ (σ 72 k).toInt ≤ 3) := id hI106
  refine lv_aload_n hx hb dL_law_440 rfl (lv_at hl 2 rfl) ?_
  refine lv_aload_n hx hb dL_law_441 rfl (lv_at hl 3 rfl) ?_
  refine lv_iload_n hx hb dL_law_442 rfl (lv_at hl 0 rfl) ?_
  refine lv_iconst (v := 1) hx hb dL_law_443 (by decide) ?_
  have g8 := jrg (rfl : x0.toInt = x0.toInt)
  refine lv_iadd hx hb dL_law_444 ?_
  refine lv_topi (fun x9 ex9 => ?_)
  have tx9 : x9.toInt = x0.toInt + 1 := (jadd ex9 rfl jz_1 (by omega) (by omega)).trans (by omega)
  refine va_sld hx hb hX hbl hbA hS (jin tx9 (by omega) (by omega)) dL_law_445 ?_
  have g10 := jrg (rfl : (xs x9.toNatClampNeg).toInt = (xs x9.toNatClampNeg).toInt)
  refine lv_aload_n hx hb dL_law_446 rfl (lv_at hl 3 rfl) ?_
  refine lv_iload_n hx hb dL_law_447 rfl (lv_at hl 0 rfl) ?_
  refine lv_iconst (v := 2) hx hb dL_law_448 (by decide) ?_
  refine lv_iadd hx hb dL_law_449 ?_
  refine lv_topi (fun x11 ex11 => ?_)
  have tx11 : x11.toInt = x0.toInt + 2 := (jadd ex11 rfl jz_2 (by omega) (by omega)).trans (by omega)
  refine va_sld hx hb hX hbl hbA hS (jin tx11 (by omega) (by omega)) dL_law_450 ?_
  have g12 := jrg (rfl : (xs x11.toNatClampNeg).toInt = (xs x11.toNatClampNeg).toInt)
  refine lv_aload_n hx hb dL_law_451 rfl (lv_at hl 3 rfl) ?_
  refine lv_iload_n hx hb dL_law_452 rfl (lv_at hl 0 rfl) ?_
  refine lv_iconst (v := 3) hx hb dL_law_453 (by decide) ?_
  refine lv_iadd hx hb dL_law_454 ?_
  refine lv_topi (fun x13 ex13 => ?_)
  have tx13 : x13.toInt = x0.toInt + 3 := (jadd ex13 rfl jz_3 (by omega) (by omega)).trans (by omega)
  refine va_sld hx hb hX hbl hbA hS (jin tx13 (by omega) (by omega)) dL_law_455 ?_
  have g14 := jrg (rfl : (xs x13.toNatClampNeg).toInt = (xs x13.toNatClampNeg).toInt)
  refine jcallV (As := [.int (xs x9.toNatClampNeg), .int (xs x11.toNatClampNeg), .int (xs x13.toNatClampNeg)]) (rest := []) ⟨hx, hb, hml, hown, hts⟩ hK hP hA hS hZ (c_X11_over l D cI cL ad zz hJ σ τ (xs x9.toNatClampNeg) ((xs x9.toNatClampNeg).toInt) rfl (xs x11.toNatClampNeg) ((xs x11.toNatClampNeg).toInt) rfl (xs x13.toNatClampNeg) ((xs x13.toNatClampNeg).toInt) rfl hI2 hI22) cw_RL_49 (jc_0 cI cL ad σ τ) rfl ⟨Nat.le_of_ble_eq_true rfl, Nat.le_of_ble_eq_true rfl⟩ rfl rfl rfl hl.1 rfl (Nat.le_of_ble_eq_true rfl) dL_law_456 ⟨Nat.le_of_ble_eq_true rfl, Nat.le_of_ble_eq_true rfl⟩ (fun r16 σ15 τ15 H locs h15 hP hS => ?_)
  obtain ⟨rfl, f17, h15⟩ := h15
  refine lv_pop hx hb dL_law_459 rfl ?_
  refine lv_aload_n hx hb dL_law_460 rfl (lv_at hl 1 rfl) ?_
  refine lv_aload_n hx hb dL_law_461 rfl (lv_at hl 3 rfl) ?_
  refine lv_iload_n hx hb dL_law_462 rfl (lv_at hl 0 rfl) ?_
  refine lv_iconst (v := 1) hx hb dL_law_463 (by decide) ?_
  refine lv_iadd hx hb dL_law_464 ?_
  refine jtopr ex9.symm ?_
  refine va_sld hx hb hX hbl hbA hS (jin tx9 (by omega) (by omega)) dL_law_465 ?_
  refine lv_aload_n hx hb dL_law_466 rfl (lv_at hl 3 rfl) ?_
  refine lv_iload_n hx hb dL_law_467 rfl (lv_at hl 0 rfl) ?_
  refine lv_iconst (v := 2) hx hb dL_law_468 (by decide) ?_
  refine lv_iadd hx hb dL_law_469 ?_
  refine jtopr ex11.symm ?_
  refine va_sld hx hb hX hbl hbA hS (jin tx11 (by omega) (by omega)) dL_law_470 ?_
  refine lv_aload_n hx hb dL_law_471 rfl (lv_at hl 3 rfl) ?_
  refine lv_iload_n hx hb dL_law_472 rfl (lv_at hl 0 rfl) ?_
  refine lv_iconst (v := 3) hx hb dL_law_473 (by decide) ?_
  refine lv_iadd hx hb dL_law_474 ?_
  refine jtopr ex13.symm ?_
  refine va_sld hx hb hX hbl hbA hS (jin tx13 (by omega) (by omega)) dL_law_475 ?_
  have I19 : jI101 σ15 := jI101_fr (congrFun (f17 55 (by decide)) 4) (congrFun (f17 55 (by decide)) 5) (f17 56 (by decide)) (f17 57 (by decide)) (f17 58 (by decide)) (f17 59 (by decide)) hI101
  have I20 : jI102 σ15 := jI102_fr (congrFun (f17 55 (by decide)) 6) (f17 60 (by decide)) (f17 61 (by decide)) hI102
  have I21 : jI103 σ15 := jI103_fr (congrFun (f17 55 (by decide)) 9) hI103
  have I22 : jI104 σ15 := jI104_fr (congrFun (f17 55 (by decide)) 10) (congrFun (f17 55 (by decide)) 12) (congrFun (f17 55 (by decide)) 13) (f17 62 (by decide)) (f17 67 (by decide)) hI104
  have I23 : jI105 σ15 := jI105_fr (congrFun (f17 55 (by decide)) 15) (f17 65 (by decide)) hI105
  have I24 : jI119 σ15 := jI119_fr (f17 68 (by decide)) hI119
  refine jcallV (As := [.int (xs x9.toNatClampNeg), .int (xs x11.toNatClampNeg), .int (xs x13.toNatClampNeg)]) (rest := []) ⟨hx, hb, hml, hown, hts⟩ hK hP hA hS hZ (c_X12_over l D cI cL ad zz hJ σ15 τ (xs x9.toNatClampNeg) ((xs x9.toNatClampNeg).toInt) rfl (xs x11.toNatClampNeg) ((xs x11.toNatClampNeg).toInt) rfl (xs x13.toNatClampNeg) ((xs x13.toNatClampNeg).toInt) rfl I19 I20 I21 I22 I23 I24) cw_RL_52 (jc_55 cI cL ad σ15 τ) rfl ⟨Nat.le_of_ble_eq_true rfl, Nat.le_of_ble_eq_true rfl⟩ rfl rfl rfl hl.1 rfl (Nat.le_of_ble_eq_true rfl) dL_law_476 ⟨Nat.le_of_ble_eq_true rfl, Nat.le_of_ble_eq_true rfl⟩ (fun r26 σ25 τ25 H locs h25 hP hS => ?_)
  obtain ⟨rfl, f27, f28, I29, h25⟩ := h25
  refine lv_pop hx hb dL_law_479 rfl ?_
  refine lv_goto (tgt := 1357) hx hb dL_law_480 (by decide) ?_
  obtain ⟨x31, ex31⟩ : ∃ y : Int32, y = x0 + 6 := ⟨_, rfl⟩
  have tx31 : x31.toInt = x0.toInt + 6 := (jadd ex31 rfl jz_6 (by omega) (by omega)).trans (by omega)
  refine lv_iinc (v := x31) (lv' := [(3, .int x31), (2, .ref (ad 55)), (1, .ref (ad 0)), (0, .ref b)]) hx hb dL_law_1357 hl (k := 0) rfl (by rw [ex31]; rfl) (by decide) rfl (fun ls hl => ?_)
  refine lv_goto (tgt := 18) hx hb dL_law_1360 (by decide) ?_
  have I32 : jI2 σ25 := jI2_fr ((congrFun (f27 2 (by decide)) 0).trans (congrFun (f17 2 (by decide)) 0)) ((congrFun (f27 2 (by decide)) 1).trans (congrFun (f17 2 (by decide)) 1)) ((congrFun (f27 2 (by decide)) 2).trans (congrFun (f17 2 (by decide)) 2)) ((congrFun (f27 2 (by decide)) 3).trans (congrFun (f17 2 (by decide)) 3)) ((f27 6 (by decide)).trans (f17 6 (by decide))) hI2
  have I33 : jI9 σ25 := jI9_fr ((congrFun (f27 9 (by decide)) 0).trans (congrFun (f17 9 (by decide)) 0)) ((f27 10 (by decide)).trans (f17 10 (by decide))) ((f27 11 (by decide)).trans (f17 11 (by decide))) hI9
  have I34 : jI12 σ25 := jI12_fr ((congrFun (f27 12 (by decide)) 0).trans (congrFun (f17 12 (by decide)) 0)) ((f27 13 (by decide)).trans (f17 13 (by decide))) hI12
  have I35 : jI16 σ25 := jI16_fr ((congrFun (f27 16 (by decide)) 0).trans (congrFun (f17 16 (by decide)) 0)) ((congrFun (f27 16 (by decide)) 1).trans (congrFun (f17 16 (by decide)) 1)) ((congrFun (f27 16 (by decide)) 2).trans (congrFun (f17 16 (by decide)) 2)) ((f27 17 (by decide)).trans (f17 17 (by decide))) hI16
  have I36 : jI18 σ25 := jI18_fr ((congrFun (f27 18 (by decide)) 0).trans (congrFun (f17 18 (by decide)) 0)) ((f27 19 (by decide)).trans (f17 19 (by decide))) hI18
  have I37 : jI22 σ25 := jI22_fr ((congrFun (f27 22 (by decide)) 0).trans (congrFun (f17 22 (by decide)) 0)) ((f27 23 (by decide)).trans (f17 23 (by decide))) hI22
  have I38 : jI31 σ25 := jI31_fr ((congrFun (f27 31 (by decide)) 8).trans (congrFun (f17 31 (by decide)) 8)) ((f27 33 (by decide)).trans (f17 33 (by decide))) ((f27 36 (by decide)).trans (f17 36 (by decide))) hI31
  have I39 : jI38 σ25 := jI38_fr ((congrFun (f27 38 (by decide)) 0).trans (congrFun (f17 38 (by decide)) 0)) ((congrFun (f27 38 (by decide)) 1).trans (congrFun (f17 38 (by decide)) 1)) ((f27 39 (by decide)).trans (f17 39 (by decide))) hI38
  have I40 : jI43 σ25 := jI43_fr ((congrFun (f27 43 (by decide)) 8).trans (congrFun (f17 43 (by decide)) 8)) hI43
  have I41 : jI47 σ25 := jI47_fr ((congrFun (f27 47 (by decide)) 0).trans (congrFun (f17 47 (by decide)) 0)) ((f27 48 (by decide)).trans (f17 48 (by decide))) ((f27 49 (by decide)).trans (f17 49 (by decide))) hI47
  have I42 : jI50 σ25 := jI50_fr ((f27 52 (by decide)).trans (f17 52 (by decide))) hI50
  have I43 : jI101 σ25 := jI101_fr (f28 4 (by decide)) (f28 5 (by decide)) (f27 56 (by decide)) (f27 57 (by decide)) (f27 58 (by decide)) (f27 59 (by decide)) I19
  have I44 : jI102 σ25 := jI102_fr (f28 6 (by decide)) (f27 60 (by decide)) (f27 61 (by decide)) I20
  have I45 : jI103 σ25 := jI103_fr (f28 9 (by decide)) I21
  have I46 : jI104 σ25 := jI104_fr (f28 10 (by decide)) (f28 12 (by decide)) (f28 13 (by decide)) (f27 62 (by decide)) (f27 67 (by decide)) I22
  have I47 : jI105 σ25 := jI105_fr (f28 15 (by decide)) (f27 65 (by decide)) I23
  have I48 : jI106 σ25 := jI106_fr ((f28 32 (by decide)).trans (congrFun (f17 55 (by decide)) 32)) ((f27 70 (by decide)).trans (f17 70 (by decide))) ((f27 71 (by decide)).trans (f17 71 (by decide))) ((f27 72 (by decide)).trans (f17 72 (by decide))) hI106
  have I49 : jI107 σ25 := jI107_fr ((f28 12 (by decide)).trans (congrFun (f17 55 (by decide)) 12)) ((f28 47 (by decide)).trans (congrFun (f17 55 (by decide)) 47)) ((f27 80 (by decide)).trans (f17 80 (by decide))) hI107
  have I50 : jI109 σ25 := jI109_fr ((f28 50 (by decide)).trans (congrFun (f17 55 (by decide)) 50)) hI109
  have I51 : jI110 σ25 := jI110_fr ((f27 86 (by decide)).trans (f17 86 (by decide))) ((f27 87 (by decide)).trans (f17 87 (by decide))) hI110
  have I52 : jI111 σ25 := jI111_fr ((f27 79 (by decide)).trans (f17 79 (by decide))) hI111
  have p53 : jKept σ25 := jKept.fr ((f27 75 (by decide)).trans (f17 75 (by decide))) ((f27 76 (by decide)).trans (f17 76 (by decide))) ((f27 77 (by decide)).trans (f17 77 (by decide))) hs_jKept
  have p54 : jBook σ25 := jBook.fr ((f28 47 (by decide)).trans (congrFun (f17 55 (by decide)) 47)) ((f28 10 (by decide)).trans (congrFun (f17 55 (by decide)) 10)) ((f27 81 (by decide)).trans (f17 81 (by decide))) hs_jBook
  have z55 : (σ25 38 0).toInt = (σ 38 0).toInt := (congrArg Int32.toInt (show σ25 38 0 = (σ 38 0) from ((congrFun (f27 38 (by decide)) 0).trans (congrFun (f17 38 (by decide)) 0))))
  have z56 : (σ25 55 32).toInt = (σ 55 32).toInt := (congrArg Int32.toInt (show σ25 55 32 = (σ 55 32) from ((f28 32 (by decide)).trans (congrFun (f17 55 (by decide)) 32))))
  exact ih x31 σ25 τ _ _ ls (by have h9 := tx31; omega) ⟨I32, I33, I34, I35, I36, I37, I38, I39, I40, I41, I42, I43, I44, I45, I46, I47, I48, I49, I50, I51, I52, I29, p53, p54, (by omega), (show jShP (σ25 51) (σ25 52) (σ25 53) (σ25 86) (σ25 87) (σ25 55 32).toInt by rw [show σ25 51 = σ 51 from ((f27 51 (by decide)).trans (f17 51 (by decide))), show σ25 52 = σ 52 from ((f27 52 (by decide)).trans (f17 52 (by decide))), show σ25 53 = σ 53 from ((f27 53 (by decide)).trans (f17 53 (by decide))), show σ25 86 = σ 86 from ((f27 86 (by decide)).trans (f17 86 (by decide))), show σ25 87 = σ 87 from ((f27 87 (by decide)).trans (f17 87 (by decide)))]; exact (hr0.up (by omega) (by omega))), (show jKd (σ25 39) (σ25 70) (σ25 55 32).toInt by rw [show σ25 39 = σ 39 from ((f27 39 (by decide)).trans (f17 39 (by decide))), show σ25 70 = σ 70 from ((f27 70 (by decide)).trans (f17 70 (by decide))), show (σ25 55 32).toInt = (σ 55 32).toInt from by omega]; exact hr1)⟩ hP hS (lv_sub hl [0, 1, 2, 3] rfl)
set_option maxHeartbeats 4000000 in
set_option maxRecDepth 100000 in
theorem law_case_9 {p : Program} {e : Env} {s : State} {m : MethodId} {below : List Frame} {meth : Method} {c : Code} (l : Launch) {b L : Nat} {xs : Nat → Int32} {D : va_G} {cI cL : ClassId} {ad zz : Nat → Nat} (C0 : lw_At p s m meth c b L xs) (hJ : jD ad) (hA : ∀ q, jA ad q → s.heap.size ≤ q) (hK : jK D cI cL s) (hZ : jZ zz (fun q : Nat => s.heap.size ≤ q) s s.heap) {x0 : Int32} (hx0 : 0 ≤ x0.toInt) (hxL : x0.toInt + 6 ≤ (L : Int)) (hL : L ≤ 384) {σ : Nat → Nat → Int32} {τ : Nat → Nat → Int64} {H : Heap} {locs : List Loc} (hS : va_S (fun q : Nat => s.heap.size ≤ q) s.heap H locs) {ls : Array Slot} (hAll : jAll σ τ) (hP : jH D cI cL ad σ τ H) (hl : lv_has ls 4 [(3, .int x0), (2, .ref (ad 55)), (1, .ref (ad 0)), (0, .ref b)]) (ih : ∀ (x1 : Int32) (σ : Nat → Nat → Int32) (τ : Nat → Nat → Int64) (H : Heap) (locs : List Loc) (ls : Array Slot), x1.toInt = x0.toInt + 6 → jAll σ τ → jH D cI cL ad σ τ H → va_S (fun q : Nat => s.heap.size ≤ q) s.heap H locs → lv_has ls 4 [(3, .int x1), (2, .ref (ad 55)), (1, .ref (ad 0)), (0, .ref b)] → W p l e room_1 s m #[Value.ref b] below meth c H locs 90 348600 (lw_Z below #[Value.ref b] s) (F0 m 18 ls [])) : W p l e room_1 s m #[Value.ref b] below meth c H locs 90 348600 (lw_Z below #[Value.ref b] s) (F0 m 483 ls []) := by
  obtain ⟨hx, hb, hr, hml, hown, hts0, hX, hbl, hlocks, hgv⟩ := C0
  have hts : ∀ w ∈ wsL_law, w.before #[Value.ref b] s = true := fun w h => hts0 w (wsL_law_in w h)
  have hbA : ¬ (fun q : Nat => s.heap.size ≤ q) b := Nat.not_le.mpr hbl
  have hown : s.vm.findClass RL = some m.cls := hown
  obtain ⟨hI2, hI9, hI12, hI16, hI18, hI22, hI31, hI38, hI43, hI47, hI50, hI101, hI102, hI103, hI104, hI105, hI106, hI107, hI109, hI110, hI111, hI119, hs_jKept, hs_jBook, ht0, hr0, hr1⟩ := hAll
  have hL9 : (L : Int) ≤ 384 := by omega
  obtain ⟨i1, i2, w3⟩ : (0 ≤ (σ 38 0).toInt ∧ (σ 38 0).toInt ≤ 20) ∧ (0 ≤ (σ 38 1).toInt ∧ (σ 38 1).toInt ≤ 1000) ∧ (∀ k : Nat, k < 20 → 0 ≤ (σ 39 k).toInt ∧ (σ 39 k).toInt ≤ 6) := id hI38
  obtain ⟨i4, w5, w6, w7⟩ : (0 ≤ (σ 55 32).toInt ∧ (σ 55 32).toInt ≤ 20) ∧ (∀ k : Nat, k < 20 → 0 ≤ (σ 70 k).toInt ∧ (σ 70 k).toInt ≤ 6) ∧ (∀ k : Nat, k < 20 → 0 ≤ (σ 71 k).toInt ∧ (σ 71 k).toInt ≤ 8) ∧ (∀ k : Nat, k < 160 → 0 ≤ (σ 72 k).toInt ∧ (σ 72 k).toInt ≤ 3) := id hI106
  refine lv_aload_n hx hb dL_law_483 rfl (lv_at hl 2 rfl) ?_
  refine lv_aload_n hx hb dL_law_484 rfl (lv_at hl 3 rfl) ?_
  refine lv_iload_n hx hb dL_law_485 rfl (lv_at hl 0 rfl) ?_
  refine lv_iconst (v := 1) hx hb dL_law_486 (by decide) ?_
  have g8 := jrg (rfl : x0.toInt = x0.toInt)
  refine lv_iadd hx hb dL_law_487 ?_
  refine lv_topi (fun x9 ex9 => ?_)
  have tx9 : x9.toInt = x0.toInt + 1 := (jadd ex9 rfl jz_1 (by omega) (by omega)).trans (by omega)
  refine va_sld hx hb hX hbl hbA hS (jin tx9 (by omega) (by omega)) dL_law_488 ?_
  have g10 := jrg (rfl : (xs x9.toNatClampNeg).toInt = (xs x9.toNatClampNeg).toInt)
  refine lv_aload_n hx hb dL_law_489 rfl (lv_at hl 3 rfl) ?_
  refine lv_iload_n hx hb dL_law_490 rfl (lv_at hl 0 rfl) ?_
  refine lv_iconst (v := 2) hx hb dL_law_491 (by decide) ?_
  refine lv_iadd hx hb dL_law_492 ?_
  refine lv_topi (fun x11 ex11 => ?_)
  have tx11 : x11.toInt = x0.toInt + 2 := (jadd ex11 rfl jz_2 (by omega) (by omega)).trans (by omega)
  refine va_sld hx hb hX hbl hbA hS (jin tx11 (by omega) (by omega)) dL_law_493 ?_
  have g12 := jrg (rfl : (xs x11.toNatClampNeg).toInt = (xs x11.toNatClampNeg).toInt)
  refine lv_aload_n hx hb dL_law_494 rfl (lv_at hl 3 rfl) ?_
  refine lv_iload_n hx hb dL_law_495 rfl (lv_at hl 0 rfl) ?_
  refine lv_iconst (v := 3) hx hb dL_law_496 (by decide) ?_
  refine lv_iadd hx hb dL_law_497 ?_
  refine lv_topi (fun x13 ex13 => ?_)
  have tx13 : x13.toInt = x0.toInt + 3 := (jadd ex13 rfl jz_3 (by omega) (by omega)).trans (by omega)
  refine va_sld hx hb hX hbl hbA hS (jin tx13 (by omega) (by omega)) dL_law_498 ?_
  have g14 := jrg (rfl : (xs x13.toNatClampNeg).toInt = (xs x13.toNatClampNeg).toInt)
  refine jcallV (As := [.int (xs x9.toNatClampNeg), .int (xs x11.toNatClampNeg), .int (xs x13.toNatClampNeg)]) (rest := []) ⟨hx, hb, hml, hown, hts⟩ hK hP hA hS hZ (c_X11_rule l D cI cL ad zz hJ σ τ (xs x9.toNatClampNeg) ((xs x9.toNatClampNeg).toInt) rfl (xs x11.toNatClampNeg) ((xs x11.toNatClampNeg).toInt) rfl (xs x13.toNatClampNeg) ((xs x13.toNatClampNeg).toInt) rfl hI38) cw_RL_53 (jc_0 cI cL ad σ τ) rfl ⟨Nat.le_of_ble_eq_true rfl, Nat.le_of_ble_eq_true rfl⟩ rfl rfl rfl hl.1 rfl (Nat.le_of_ble_eq_true rfl) dL_law_499 ⟨Nat.le_of_ble_eq_true rfl, Nat.le_of_ble_eq_true rfl⟩ (fun r16 σ15 τ15 H locs h15 hP hS => ?_)
  obtain ⟨rfl, f17, f18, I19, h15⟩ := h15
  obtain ⟨i21, i22, w23⟩ : (0 ≤ (σ15 38 0).toInt ∧ (σ15 38 0).toInt ≤ 20) ∧ (0 ≤ (σ15 38 1).toInt ∧ (σ15 38 1).toInt ≤ 1000) ∧ (∀ k : Nat, k < 20 → 0 ≤ (σ15 39 k).toInt ∧ (σ15 39 k).toInt ≤ 6) := id I19
  have z24 : (σ15 38 1).toInt = (σ 38 1).toInt := (congrArg Int32.toInt (show σ15 38 1 = (σ 38 1) from (f18 1 (by decide))))
  rcases h15 with h25 | h26 | h27
  · obtain ⟨q31, k28, k29, k30⟩ := h25
    have q31 := q31.symm
    subst q31
    refine lv_pop hx hb dL_law_502 rfl ?_
    refine lv_aload_n hx hb dL_law_503 rfl (lv_at hl 1 rfl) ?_
    refine lv_aload_n hx hb dL_law_504 rfl (lv_at hl 3 rfl) ?_
    refine lv_iload_n hx hb dL_law_505 rfl (lv_at hl 0 rfl) ?_
    refine lv_iconst (v := 1) hx hb dL_law_506 (by decide) ?_
    refine lv_iadd hx hb dL_law_507 ?_
    refine jtopr ex9.symm ?_
    refine va_sld hx hb hX hbl hbA hS (jin tx9 (by omega) (by omega)) dL_law_508 ?_
    refine lv_aload_n hx hb dL_law_509 rfl (lv_at hl 3 rfl) ?_
    refine lv_iload_n hx hb dL_law_510 rfl (lv_at hl 0 rfl) ?_
    refine lv_iconst (v := 2) hx hb dL_law_511 (by decide) ?_
    refine lv_iadd hx hb dL_law_512 ?_
    refine jtopr ex11.symm ?_
    refine va_sld hx hb hX hbl hbA hS (jin tx11 (by omega) (by omega)) dL_law_513 ?_
    refine lv_aload_n hx hb dL_law_514 rfl (lv_at hl 3 rfl) ?_
    refine lv_iload_n hx hb dL_law_515 rfl (lv_at hl 0 rfl) ?_
    refine lv_iconst (v := 3) hx hb dL_law_516 (by decide) ?_
    refine lv_iadd hx hb dL_law_517 ?_
    refine jtopr ex13.symm ?_
    refine va_sld hx hb hX hbl hbA hS (jin tx13 (by omega) (by omega)) dL_law_518 ?_
    have I32 : jI106 σ15 := jI106_fr (congrFun (f17 55 (by decide)) 32) (f17 70 (by decide)) (f17 71 (by decide)) (f17 72 (by decide)) hI106
    have z33 : (σ15 55 32).toInt = (σ 55 32).toInt := (congrArg Int32.toInt (show σ15 55 32 = (σ 55 32) from (congrFun (f17 55 (by decide)) 32)))
    refine jcallV (As := [.int (xs x9.toNatClampNeg), .int (xs x11.toNatClampNeg), .int (xs x13.toNatClampNeg)]) (rest := []) ⟨hx, hb, hml, hown, hts⟩ hK hP hA hS hZ (c_X12_rule l D cI cL ad zz hJ σ15 τ (xs x9.toNatClampNeg) ((xs x9.toNatClampNeg).toInt) rfl (xs x11.toNatClampNeg) ((xs x11.toNatClampNeg).toInt) rfl (xs x13.toNatClampNeg) ((xs x13.toNatClampNeg).toInt) rfl I32) cw_RL_56 (jc_55 cI cL ad σ15 τ) rfl ⟨Nat.le_of_ble_eq_true rfl, Nat.le_of_ble_eq_true rfl⟩ rfl rfl rfl hl.1 rfl (Nat.le_of_ble_eq_true rfl) dL_law_519 ⟨Nat.le_of_ble_eq_true rfl, Nat.le_of_ble_eq_true rfl⟩ (fun r35 σ34 τ34 H locs h34 hP hS => ?_)
    obtain ⟨rfl, f36, f37, I38, h34⟩ := h34
    obtain ⟨i40, w41, w42, w43⟩ : (0 ≤ (σ34 55 32).toInt ∧ (σ34 55 32).toInt ≤ 20) ∧ (∀ k : Nat, k < 20 → 0 ≤ (σ34 70 k).toInt ∧ (σ34 70 k).toInt ≤ 6) ∧ (∀ k : Nat, k < 20 → 0 ≤ (σ34 71 k).toInt ∧ (σ34 71 k).toInt ≤ 8) ∧ (∀ k : Nat, k < 160 → 0 ≤ (σ34 72 k).toInt ∧ (σ34 72 k).toInt ≤ 3) := id I38
    rcases h34 with h44 | h45 | h46
    · obtain ⟨q50, k47, k48, k49⟩ := h44
      have q50 := q50.symm
      subst q50
      refine lv_pop hx hb dL_law_522 rfl ?_
      refine lv_goto (tgt := 1357) hx hb dL_law_523 (by decide) ?_
      obtain ⟨x51, ex51⟩ : ∃ y : Int32, y = x0 + 6 := ⟨_, rfl⟩
      have tx51 : x51.toInt = x0.toInt + 6 := (jadd ex51 rfl jz_6 (by omega) (by omega)).trans (by omega)
      refine lv_iinc (v := x51) (lv' := [(3, .int x51), (2, .ref (ad 55)), (1, .ref (ad 0)), (0, .ref b)]) hx hb dL_law_1357 hl (k := 0) rfl (by rw [ex51]; rfl) (by decide) rfl (fun ls hl => ?_)
      refine lv_goto (tgt := 18) hx hb dL_law_1360 (by decide) ?_
      have I52 : jI2 σ34 := jI2_fr ((congrFun (f36 2 (by decide)) 0).trans (congrFun (f17 2 (by decide)) 0)) ((congrFun (f36 2 (by decide)) 1).trans (congrFun (f17 2 (by decide)) 1)) ((congrFun (f36 2 (by decide)) 2).trans (congrFun (f17 2 (by decide)) 2)) ((congrFun (f36 2 (by decide)) 3).trans (congrFun (f17 2 (by decide)) 3)) ((f36 6 (by decide)).trans (f17 6 (by decide))) hI2
      have I53 : jI9 σ34 := jI9_fr ((congrFun (f36 9 (by decide)) 0).trans (congrFun (f17 9 (by decide)) 0)) ((f36 10 (by decide)).trans (f17 10 (by decide))) ((f36 11 (by decide)).trans (f17 11 (by decide))) hI9
      have I54 : jI12 σ34 := jI12_fr ((congrFun (f36 12 (by decide)) 0).trans (congrFun (f17 12 (by decide)) 0)) ((f36 13 (by decide)).trans (f17 13 (by decide))) hI12
      have I55 : jI16 σ34 := jI16_fr ((congrFun (f36 16 (by decide)) 0).trans (congrFun (f17 16 (by decide)) 0)) ((congrFun (f36 16 (by decide)) 1).trans (congrFun (f17 16 (by decide)) 1)) ((congrFun (f36 16 (by decide)) 2).trans (congrFun (f17 16 (by decide)) 2)) ((f36 17 (by decide)).trans (f17 17 (by decide))) hI16
      have I56 : jI18 σ34 := jI18_fr ((congrFun (f36 18 (by decide)) 0).trans (congrFun (f17 18 (by decide)) 0)) ((f36 19 (by decide)).trans (f17 19 (by decide))) hI18
      have I57 : jI22 σ34 := jI22_fr ((congrFun (f36 22 (by decide)) 0).trans (congrFun (f17 22 (by decide)) 0)) ((f36 23 (by decide)).trans (f17 23 (by decide))) hI22
      have I58 : jI31 σ34 := jI31_fr ((congrFun (f36 31 (by decide)) 8).trans (congrFun (f17 31 (by decide)) 8)) ((f36 33 (by decide)).trans (f17 33 (by decide))) ((f36 36 (by decide)).trans (f17 36 (by decide))) hI31
      have I59 : jI38 σ34 := jI38_fr (congrFun (f36 38 (by decide)) 0) (congrFun (f36 38 (by decide)) 1) (f36 39 (by decide)) I19
      have I60 : jI43 σ34 := jI43_fr ((congrFun (f36 43 (by decide)) 8).trans (congrFun (f17 43 (by decide)) 8)) hI43
      have I61 : jI47 σ34 := jI47_fr ((congrFun (f36 47 (by decide)) 0).trans (congrFun (f17 47 (by decide)) 0)) ((f36 48 (by decide)).trans (f17 48 (by decide))) ((f36 49 (by decide)).trans (f17 49 (by decide))) hI47
      have I62 : jI50 σ34 := jI50_fr ((f36 52 (by decide)).trans (f17 52 (by decide))) hI50
      have I63 : jI101 σ34 := jI101_fr ((f37 4 (by decide)).trans (congrFun (f17 55 (by decide)) 4)) ((f37 5 (by decide)).trans (congrFun (f17 55 (by decide)) 5)) ((f36 56 (by decide)).trans (f17 56 (by decide))) ((f36 57 (by decide)).trans (f17 57 (by decide))) ((f36 58 (by decide)).trans (f17 58 (by decide))) ((f36 59 (by decide)).trans (f17 59 (by decide))) hI101
      have I64 : jI102 σ34 := jI102_fr ((f37 6 (by decide)).trans (congrFun (f17 55 (by decide)) 6)) ((f36 60 (by decide)).trans (f17 60 (by decide))) ((f36 61 (by decide)).trans (f17 61 (by decide))) hI102
      have I65 : jI103 σ34 := jI103_fr ((f37 9 (by decide)).trans (congrFun (f17 55 (by decide)) 9)) hI103
      have I66 : jI104 σ34 := jI104_fr ((f37 10 (by decide)).trans (congrFun (f17 55 (by decide)) 10)) ((f37 12 (by decide)).trans (congrFun (f17 55 (by decide)) 12)) ((f37 13 (by decide)).trans (congrFun (f17 55 (by decide)) 13)) ((f36 62 (by decide)).trans (f17 62 (by decide))) ((f36 67 (by decide)).trans (f17 67 (by decide))) hI104
      have I67 : jI105 σ34 := jI105_fr ((f37 15 (by decide)).trans (congrFun (f17 55 (by decide)) 15)) ((f36 65 (by decide)).trans (f17 65 (by decide))) hI105
      have I68 : jI107 σ34 := jI107_fr ((f37 12 (by decide)).trans (congrFun (f17 55 (by decide)) 12)) ((f37 47 (by decide)).trans (congrFun (f17 55 (by decide)) 47)) ((f36 80 (by decide)).trans (f17 80 (by decide))) hI107
      have I69 : jI109 σ34 := jI109_fr ((f37 50 (by decide)).trans (congrFun (f17 55 (by decide)) 50)) hI109
      have I70 : jI110 σ34 := jI110_fr ((f36 86 (by decide)).trans (f17 86 (by decide))) ((f36 87 (by decide)).trans (f17 87 (by decide))) hI110
      have I71 : jI111 σ34 := jI111_fr ((f36 79 (by decide)).trans (f17 79 (by decide))) hI111
      have I72 : jI119 σ34 := jI119_fr ((f36 68 (by decide)).trans (f17 68 (by decide))) hI119
      have p73 : jKept σ34 := jKept.fr ((f36 75 (by decide)).trans (f17 75 (by decide))) ((f36 76 (by decide)).trans (f17 76 (by decide))) ((f36 77 (by decide)).trans (f17 77 (by decide))) hs_jKept
      have p74 : jBook σ34 := jBook.fr ((f37 47 (by decide)).trans (congrFun (f17 55 (by decide)) 47)) ((f37 10 (by decide)).trans (congrFun (f17 55 (by decide)) 10)) ((f36 81 (by decide)).trans (f17 81 (by decide))) hs_jBook
      have z75 : (σ34 38 0).toInt = (σ15 38 0).toInt := (congrArg Int32.toInt (show σ34 38 0 = (σ15 38 0) from (congrFun (f36 38 (by decide)) 0)))
      exact ih x51 σ34 τ _ _ ls (by have h9 := tx51; omega) ⟨I52, I53, I54, I55, I56, I57, I58, I59, I60, I61, I62, I63, I64, I65, I66, I67, I38, I68, I69, I70, I71, I72, p73, p74, (by omega), (show jShP (σ34 51) (σ34 52) (σ34 53) (σ34 86) (σ34 87) (σ34 55 32).toInt by rw [show σ34 51 = σ 51 from ((f36 51 (by decide)).trans (f17 51 (by decide))), show σ34 52 = σ 52 from ((f36 52 (by decide)).trans (f17 52 (by decide))), show σ34 53 = σ 53 from ((f36 53 (by decide)).trans (f17 53 (by decide))), show σ34 86 = σ 86 from ((f36 86 (by decide)).trans (f17 86 (by decide))), show σ34 87 = σ 87 from ((f36 87 (by decide)).trans (f17 87 (by decide)))]; exact (hr0.up (by omega) (by omega))), (show jKd (σ34 39) (σ34 70) (σ34 55 32).toInt by rw [show σ34 39 = σ 39 from ((f36 39 (by decide)).trans k30), show σ34 70 = σ 70 from (k49.trans (f17 70 (by decide))), show (σ34 55 32).toInt = (σ 55 32).toInt from by omega]; exact hr1)⟩ hP hS (lv_sub hl [0, 1, 2, 3] rfl)
    · obtain ⟨q80, k76, k77, k78, k79⟩ := h45
      have q80 := q80.symm
      subst q80
      exact absurd k78 k29
    · obtain ⟨q86, k81, k82, k83, k84, k85⟩ := h46
      exact absurd k84 k29
  · obtain ⟨q91, k87, k88, k89, k90⟩ := h26
    have q91 := q91.symm
    subst q91
    refine lv_pop hx hb dL_law_502 rfl ?_
    refine lv_aload_n hx hb dL_law_503 rfl (lv_at hl 1 rfl) ?_
    refine lv_aload_n hx hb dL_law_504 rfl (lv_at hl 3 rfl) ?_
    refine lv_iload_n hx hb dL_law_505 rfl (lv_at hl 0 rfl) ?_
    refine lv_iconst (v := 1) hx hb dL_law_506 (by decide) ?_
    refine lv_iadd hx hb dL_law_507 ?_
    refine jtopr ex9.symm ?_
    refine va_sld hx hb hX hbl hbA hS (jin tx9 (by omega) (by omega)) dL_law_508 ?_
    refine lv_aload_n hx hb dL_law_509 rfl (lv_at hl 3 rfl) ?_
    refine lv_iload_n hx hb dL_law_510 rfl (lv_at hl 0 rfl) ?_
    refine lv_iconst (v := 2) hx hb dL_law_511 (by decide) ?_
    refine lv_iadd hx hb dL_law_512 ?_
    refine jtopr ex11.symm ?_
    refine va_sld hx hb hX hbl hbA hS (jin tx11 (by omega) (by omega)) dL_law_513 ?_
    refine lv_aload_n hx hb dL_law_514 rfl (lv_at hl 3 rfl) ?_
    refine lv_iload_n hx hb dL_law_515 rfl (lv_at hl 0 rfl) ?_
    refine lv_iconst (v := 3) hx hb dL_law_516 (by decide) ?_
    refine lv_iadd hx hb dL_law_517 ?_
    refine jtopr ex13.symm ?_
    refine va_sld hx hb hX hbl hbA hS (jin tx13 (by omega) (by omega)) dL_law_518 ?_
    have I92 : jI106 σ15 := jI106_fr (congrFun (f17 55 (by decide)) 32) (f17 70 (by decide)) (f17 71 (by decide)) (f17 72 (by decide)) hI106
    have z93 : (σ15 55 32).toInt = (σ 55 32).toInt := (congrArg Int32.toInt (show σ15 55 32 = (σ 55 32) from (congrFun (f17 55 (by decide)) 32)))
    refine jcallV (As := [.int (xs x9.toNatClampNeg), .int (xs x11.toNatClampNeg), .int (xs x13.toNatClampNeg)]) (rest := []) ⟨hx, hb, hml, hown, hts⟩ hK hP hA hS hZ (c_X12_rule l D cI cL ad zz hJ σ15 τ (xs x9.toNatClampNeg) ((xs x9.toNatClampNeg).toInt) rfl (xs x11.toNatClampNeg) ((xs x11.toNatClampNeg).toInt) rfl (xs x13.toNatClampNeg) ((xs x13.toNatClampNeg).toInt) rfl I92) cw_RL_56 (jc_55 cI cL ad σ15 τ) rfl ⟨Nat.le_of_ble_eq_true rfl, Nat.le_of_ble_eq_true rfl⟩ rfl rfl rfl hl.1 rfl (Nat.le_of_ble_eq_true rfl) dL_law_519 ⟨Nat.le_of_ble_eq_true rfl, Nat.le_of_ble_eq_true rfl⟩ (fun r95 σ94 τ94 H locs h94 hP hS => ?_)
    obtain ⟨rfl, f96, f97, I98, h94⟩ := h94
    obtain ⟨i100, w101, w102, w103⟩ : (0 ≤ (σ94 55 32).toInt ∧ (σ94 55 32).toInt ≤ 20) ∧ (∀ k : Nat, k < 20 → 0 ≤ (σ94 70 k).toInt ∧ (σ94 70 k).toInt ≤ 6) ∧ (∀ k : Nat, k < 20 → 0 ≤ (σ94 71 k).toInt ∧ (σ94 71 k).toInt ≤ 8) ∧ (∀ k : Nat, k < 160 → 0 ≤ (σ94 72 k).toInt ∧ (σ94 72 k).toInt ≤ 3) := id I98
    rcases h94 with h104 | h105 | h106
    · obtain ⟨q110, k107, k108, k109⟩ := h104
      have q110 := q110.symm
      subst q110
      exact absurd k89 k108
    · obtain ⟨q115, k111, k112, k113, k114⟩ := h105
      have q115 := q115.symm
      subst q115
      refine lv_pop hx hb dL_law_522 rfl ?_
      refine lv_goto (tgt := 1357) hx hb dL_law_523 (by decide) ?_
      obtain ⟨x116, ex116⟩ : ∃ y : Int32, y = x0 + 6 := ⟨_, rfl⟩
      have tx116 : x116.toInt = x0.toInt + 6 := (jadd ex116 rfl jz_6 (by omega) (by omega)).trans (by omega)
      refine lv_iinc (v := x116) (lv' := [(3, .int x116), (2, .ref (ad 55)), (1, .ref (ad 0)), (0, .ref b)]) hx hb dL_law_1357 hl (k := 0) rfl (by rw [ex116]; rfl) (by decide) rfl (fun ls hl => ?_)
      refine lv_goto (tgt := 18) hx hb dL_law_1360 (by decide) ?_
      have I117 : jI2 σ94 := jI2_fr ((congrFun (f96 2 (by decide)) 0).trans (congrFun (f17 2 (by decide)) 0)) ((congrFun (f96 2 (by decide)) 1).trans (congrFun (f17 2 (by decide)) 1)) ((congrFun (f96 2 (by decide)) 2).trans (congrFun (f17 2 (by decide)) 2)) ((congrFun (f96 2 (by decide)) 3).trans (congrFun (f17 2 (by decide)) 3)) ((f96 6 (by decide)).trans (f17 6 (by decide))) hI2
      have I118 : jI9 σ94 := jI9_fr ((congrFun (f96 9 (by decide)) 0).trans (congrFun (f17 9 (by decide)) 0)) ((f96 10 (by decide)).trans (f17 10 (by decide))) ((f96 11 (by decide)).trans (f17 11 (by decide))) hI9
      have I119 : jI12 σ94 := jI12_fr ((congrFun (f96 12 (by decide)) 0).trans (congrFun (f17 12 (by decide)) 0)) ((f96 13 (by decide)).trans (f17 13 (by decide))) hI12
      have I120 : jI16 σ94 := jI16_fr ((congrFun (f96 16 (by decide)) 0).trans (congrFun (f17 16 (by decide)) 0)) ((congrFun (f96 16 (by decide)) 1).trans (congrFun (f17 16 (by decide)) 1)) ((congrFun (f96 16 (by decide)) 2).trans (congrFun (f17 16 (by decide)) 2)) ((f96 17 (by decide)).trans (f17 17 (by decide))) hI16
      have I121 : jI18 σ94 := jI18_fr ((congrFun (f96 18 (by decide)) 0).trans (congrFun (f17 18 (by decide)) 0)) ((f96 19 (by decide)).trans (f17 19 (by decide))) hI18
      have I122 : jI22 σ94 := jI22_fr ((congrFun (f96 22 (by decide)) 0).trans (congrFun (f17 22 (by decide)) 0)) ((f96 23 (by decide)).trans (f17 23 (by decide))) hI22
      have I123 : jI31 σ94 := jI31_fr ((congrFun (f96 31 (by decide)) 8).trans (congrFun (f17 31 (by decide)) 8)) ((f96 33 (by decide)).trans (f17 33 (by decide))) ((f96 36 (by decide)).trans (f17 36 (by decide))) hI31
      have I124 : jI38 σ94 := jI38_fr (congrFun (f96 38 (by decide)) 0) (congrFun (f96 38 (by decide)) 1) (f96 39 (by decide)) I19
      have I125 : jI43 σ94 := jI43_fr ((congrFun (f96 43 (by decide)) 8).trans (congrFun (f17 43 (by decide)) 8)) hI43
      have I126 : jI47 σ94 := jI47_fr ((congrFun (f96 47 (by decide)) 0).trans (congrFun (f17 47 (by decide)) 0)) ((f96 48 (by decide)).trans (f17 48 (by decide))) ((f96 49 (by decide)).trans (f17 49 (by decide))) hI47
      have I127 : jI50 σ94 := jI50_fr ((f96 52 (by decide)).trans (f17 52 (by decide))) hI50
      have I128 : jI101 σ94 := jI101_fr ((f97 4 (by decide)).trans (congrFun (f17 55 (by decide)) 4)) ((f97 5 (by decide)).trans (congrFun (f17 55 (by decide)) 5)) ((f96 56 (by decide)).trans (f17 56 (by decide))) ((f96 57 (by decide)).trans (f17 57 (by decide))) ((f96 58 (by decide)).trans (f17 58 (by decide))) ((f96 59 (by decide)).trans (f17 59 (by decide))) hI101
      have I129 : jI102 σ94 := jI102_fr ((f97 6 (by decide)).trans (congrFun (f17 55 (by decide)) 6)) ((f96 60 (by decide)).trans (f17 60 (by decide))) ((f96 61 (by decide)).trans (f17 61 (by decide))) hI102
      have I130 : jI103 σ94 := jI103_fr ((f97 9 (by decide)).trans (congrFun (f17 55 (by decide)) 9)) hI103
      have I131 : jI104 σ94 := jI104_fr ((f97 10 (by decide)).trans (congrFun (f17 55 (by decide)) 10)) ((f97 12 (by decide)).trans (congrFun (f17 55 (by decide)) 12)) ((f97 13 (by decide)).trans (congrFun (f17 55 (by decide)) 13)) ((f96 62 (by decide)).trans (f17 62 (by decide))) ((f96 67 (by decide)).trans (f17 67 (by decide))) hI104
      have I132 : jI105 σ94 := jI105_fr ((f97 15 (by decide)).trans (congrFun (f17 55 (by decide)) 15)) ((f96 65 (by decide)).trans (f17 65 (by decide))) hI105
      have I133 : jI107 σ94 := jI107_fr ((f97 12 (by decide)).trans (congrFun (f17 55 (by decide)) 12)) ((f97 47 (by decide)).trans (congrFun (f17 55 (by decide)) 47)) ((f96 80 (by decide)).trans (f17 80 (by decide))) hI107
      have I134 : jI109 σ94 := jI109_fr ((f97 50 (by decide)).trans (congrFun (f17 55 (by decide)) 50)) hI109
      have I135 : jI110 σ94 := jI110_fr ((f96 86 (by decide)).trans (f17 86 (by decide))) ((f96 87 (by decide)).trans (f17 87 (by decide))) hI110
      have I136 : jI111 σ94 := jI111_fr ((f96 79 (by decide)).trans (f17 79 (by decide))) hI111
      have I137 : jI119 σ94 := jI119_fr ((f96 68 (by decide)).trans (f17 68 (by decide))) hI119
      have p138 : jKept σ94 := jKept.fr ((f96 75 (by decide)).trans (f17 75 (by decide))) ((f96 76 (by decide)).trans (f17 76 (by decide))) ((f96 77 (by decide)).trans (f17 77 (by decide))) hs_jKept
      have p139 : jBook σ94 := jBook.fr ((f97 47 (by decide)).trans (congrFun (f17 55 (by decide)) 47)) ((f97 10 (by decide)).trans (congrFun (f17 55 (by decide)) 10)) ((f96 81 (by decide)).trans (f17 81 (by decide))) hs_jBook
      have z140 : (σ94 38 0).toInt = (σ15 38 0).toInt := (congrArg Int32.toInt (show σ94 38 0 = (σ15 38 0) from (congrFun (f96 38 (by decide)) 0)))
      exact ih x116 σ94 τ _ _ ls (by have h9 := tx116; omega) ⟨I117, I118, I119, I120, I121, I122, I123, I124, I125, I126, I127, I128, I129, I130, I131, I132, I98, I133, I134, I135, I136, I137, p138, p139, (by omega), (show jShP (σ94 51) (σ94 52) (σ94 53) (σ94 86) (σ94 87) (σ94 55 32).toInt by rw [show σ94 51 = σ 51 from ((f96 51 (by decide)).trans (f17 51 (by decide))), show σ94 52 = σ 52 from ((f96 52 (by decide)).trans (f17 52 (by decide))), show σ94 53 = σ 53 from ((f96 53 (by decide)).trans (f17 53 (by decide))), show σ94 86 = σ 86 from ((f96 86 (by decide)).trans (f17 86 (by decide))), show σ94 87 = σ 87 from ((f96 87 (by decide)).trans (f17 87 (by decide)))]; exact (hr0.up (by omega) (by omega))), (show jKd (σ94 39) (σ94 70) (σ94 55 32).toInt by rw [show σ94 39 = σ 39 from ((f96 39 (by decide)).trans k90), show σ94 70 = σ 70 from (k114.trans (f17 70 (by decide))), show (σ94 55 32).toInt = (σ 55 32).toInt from by omega]; exact hr1)⟩ hP hS (lv_sub hl [0, 1, 2, 3] rfl)
    · obtain ⟨q146, k141, k142, k143, k144, k145⟩ := h106
      exact absurd (by omega : False) id
  · obtain ⟨q152, k147, k148, k149, k150, k151⟩ := h27
    refine lv_pop hx hb dL_law_502 rfl ?_
    refine lv_aload_n hx hb dL_law_503 rfl (lv_at hl 1 rfl) ?_
    refine lv_aload_n hx hb dL_law_504 rfl (lv_at hl 3 rfl) ?_
    refine lv_iload_n hx hb dL_law_505 rfl (lv_at hl 0 rfl) ?_
    refine lv_iconst (v := 1) hx hb dL_law_506 (by decide) ?_
    refine lv_iadd hx hb dL_law_507 ?_
    refine jtopr ex9.symm ?_
    refine va_sld hx hb hX hbl hbA hS (jin tx9 (by omega) (by omega)) dL_law_508 ?_
    refine lv_aload_n hx hb dL_law_509 rfl (lv_at hl 3 rfl) ?_
    refine lv_iload_n hx hb dL_law_510 rfl (lv_at hl 0 rfl) ?_
    refine lv_iconst (v := 2) hx hb dL_law_511 (by decide) ?_
    refine lv_iadd hx hb dL_law_512 ?_
    refine jtopr ex11.symm ?_
    refine va_sld hx hb hX hbl hbA hS (jin tx11 (by omega) (by omega)) dL_law_513 ?_
    refine lv_aload_n hx hb dL_law_514 rfl (lv_at hl 3 rfl) ?_
    refine lv_iload_n hx hb dL_law_515 rfl (lv_at hl 0 rfl) ?_
    refine lv_iconst (v := 3) hx hb dL_law_516 (by decide) ?_
    refine lv_iadd hx hb dL_law_517 ?_
    refine jtopr ex13.symm ?_
    refine va_sld hx hb hX hbl hbA hS (jin tx13 (by omega) (by omega)) dL_law_518 ?_
    have I153 : jI106 σ15 := jI106_fr (congrFun (f17 55 (by decide)) 32) (f17 70 (by decide)) (f17 71 (by decide)) (f17 72 (by decide)) hI106
    have z154 : (σ15 55 32).toInt = (σ 55 32).toInt := (congrArg Int32.toInt (show σ15 55 32 = (σ 55 32) from (congrFun (f17 55 (by decide)) 32)))
    refine jcallV (As := [.int (xs x9.toNatClampNeg), .int (xs x11.toNatClampNeg), .int (xs x13.toNatClampNeg)]) (rest := []) ⟨hx, hb, hml, hown, hts⟩ hK hP hA hS hZ (c_X12_rule l D cI cL ad zz hJ σ15 τ (xs x9.toNatClampNeg) ((xs x9.toNatClampNeg).toInt) rfl (xs x11.toNatClampNeg) ((xs x11.toNatClampNeg).toInt) rfl (xs x13.toNatClampNeg) ((xs x13.toNatClampNeg).toInt) rfl I153) cw_RL_56 (jc_55 cI cL ad σ15 τ) rfl ⟨Nat.le_of_ble_eq_true rfl, Nat.le_of_ble_eq_true rfl⟩ rfl rfl rfl hl.1 rfl (Nat.le_of_ble_eq_true rfl) dL_law_519 ⟨Nat.le_of_ble_eq_true rfl, Nat.le_of_ble_eq_true rfl⟩ (fun r156 σ155 τ155 H locs h155 hP hS => ?_)
    obtain ⟨rfl, f157, f158, I159, h155⟩ := h155
    obtain ⟨i161, w162, w163, w164⟩ : (0 ≤ (σ155 55 32).toInt ∧ (σ155 55 32).toInt ≤ 20) ∧ (∀ k : Nat, k < 20 → 0 ≤ (σ155 70 k).toInt ∧ (σ155 70 k).toInt ≤ 6) ∧ (∀ k : Nat, k < 20 → 0 ≤ (σ155 71 k).toInt ∧ (σ155 71 k).toInt ≤ 8) ∧ (∀ k : Nat, k < 160 → 0 ≤ (σ155 72 k).toInt ∧ (σ155 72 k).toInt ≤ 3) := id I159
    rcases h155 with h165 | h166 | h167
    · obtain ⟨q171, k168, k169, k170⟩ := h165
      have q171 := q171.symm
      subst q171
      exact absurd k150 k169
    · obtain ⟨q176, k172, k173, k174, k175⟩ := h166
      exact absurd (by omega : False) id
    · obtain ⟨q182, k177, k178, k179, k180, k181⟩ := h167
      refine lv_pop hx hb dL_law_522 rfl ?_
      refine lv_goto (tgt := 1357) hx hb dL_law_523 (by decide) ?_
      obtain ⟨x183, ex183⟩ : ∃ y : Int32, y = x0 + 6 := ⟨_, rfl⟩
      have tx183 : x183.toInt = x0.toInt + 6 := (jadd ex183 rfl jz_6 (by omega) (by omega)).trans (by omega)
      refine lv_iinc (v := x183) (lv' := [(3, .int x183), (2, .ref (ad 55)), (1, .ref (ad 0)), (0, .ref b)]) hx hb dL_law_1357 hl (k := 0) rfl (by rw [ex183]; rfl) (by decide) rfl (fun ls hl => ?_)
      refine lv_goto (tgt := 18) hx hb dL_law_1360 (by decide) ?_
      have I184 : jI2 σ155 := jI2_fr ((congrFun (f157 2 (by decide)) 0).trans (congrFun (f17 2 (by decide)) 0)) ((congrFun (f157 2 (by decide)) 1).trans (congrFun (f17 2 (by decide)) 1)) ((congrFun (f157 2 (by decide)) 2).trans (congrFun (f17 2 (by decide)) 2)) ((congrFun (f157 2 (by decide)) 3).trans (congrFun (f17 2 (by decide)) 3)) ((f157 6 (by decide)).trans (f17 6 (by decide))) hI2
      have I185 : jI9 σ155 := jI9_fr ((congrFun (f157 9 (by decide)) 0).trans (congrFun (f17 9 (by decide)) 0)) ((f157 10 (by decide)).trans (f17 10 (by decide))) ((f157 11 (by decide)).trans (f17 11 (by decide))) hI9
      have I186 : jI12 σ155 := jI12_fr ((congrFun (f157 12 (by decide)) 0).trans (congrFun (f17 12 (by decide)) 0)) ((f157 13 (by decide)).trans (f17 13 (by decide))) hI12
      have I187 : jI16 σ155 := jI16_fr ((congrFun (f157 16 (by decide)) 0).trans (congrFun (f17 16 (by decide)) 0)) ((congrFun (f157 16 (by decide)) 1).trans (congrFun (f17 16 (by decide)) 1)) ((congrFun (f157 16 (by decide)) 2).trans (congrFun (f17 16 (by decide)) 2)) ((f157 17 (by decide)).trans (f17 17 (by decide))) hI16
      have I188 : jI18 σ155 := jI18_fr ((congrFun (f157 18 (by decide)) 0).trans (congrFun (f17 18 (by decide)) 0)) ((f157 19 (by decide)).trans (f17 19 (by decide))) hI18
      have I189 : jI22 σ155 := jI22_fr ((congrFun (f157 22 (by decide)) 0).trans (congrFun (f17 22 (by decide)) 0)) ((f157 23 (by decide)).trans (f17 23 (by decide))) hI22
      have I190 : jI31 σ155 := jI31_fr ((congrFun (f157 31 (by decide)) 8).trans (congrFun (f17 31 (by decide)) 8)) ((f157 33 (by decide)).trans (f17 33 (by decide))) ((f157 36 (by decide)).trans (f17 36 (by decide))) hI31
      have I191 : jI38 σ155 := jI38_fr (congrFun (f157 38 (by decide)) 0) (congrFun (f157 38 (by decide)) 1) (f157 39 (by decide)) I19
      have I192 : jI43 σ155 := jI43_fr ((congrFun (f157 43 (by decide)) 8).trans (congrFun (f17 43 (by decide)) 8)) hI43
      have I193 : jI47 σ155 := jI47_fr ((congrFun (f157 47 (by decide)) 0).trans (congrFun (f17 47 (by decide)) 0)) ((f157 48 (by decide)).trans (f17 48 (by decide))) ((f157 49 (by decide)).trans (f17 49 (by decide))) hI47
      have I194 : jI50 σ155 := jI50_fr ((f157 52 (by decide)).trans (f17 52 (by decide))) hI50
      have I195 : jI101 σ155 := jI101_fr ((f158 4 (by decide)).trans (congrFun (f17 55 (by decide)) 4)) ((f158 5 (by decide)).trans (congrFun (f17 55 (by decide)) 5)) ((f157 56 (by decide)).trans (f17 56 (by decide))) ((f157 57 (by decide)).trans (f17 57 (by decide))) ((f157 58 (by decide)).trans (f17 58 (by decide))) ((f157 59 (by decide)).trans (f17 59 (by decide))) hI101
      have I196 : jI102 σ155 := jI102_fr ((f158 6 (by decide)).trans (congrFun (f17 55 (by decide)) 6)) ((f157 60 (by decide)).trans (f17 60 (by decide))) ((f157 61 (by decide)).trans (f17 61 (by decide))) hI102
      have I197 : jI103 σ155 := jI103_fr ((f158 9 (by decide)).trans (congrFun (f17 55 (by decide)) 9)) hI103
      have I198 : jI104 σ155 := jI104_fr ((f158 10 (by decide)).trans (congrFun (f17 55 (by decide)) 10)) ((f158 12 (by decide)).trans (congrFun (f17 55 (by decide)) 12)) ((f158 13 (by decide)).trans (congrFun (f17 55 (by decide)) 13)) ((f157 62 (by decide)).trans (f17 62 (by decide))) ((f157 67 (by decide)).trans (f17 67 (by decide))) hI104
      have I199 : jI105 σ155 := jI105_fr ((f158 15 (by decide)).trans (congrFun (f17 55 (by decide)) 15)) ((f157 65 (by decide)).trans (f17 65 (by decide))) hI105
      have I200 : jI107 σ155 := jI107_fr ((f158 12 (by decide)).trans (congrFun (f17 55 (by decide)) 12)) ((f158 47 (by decide)).trans (congrFun (f17 55 (by decide)) 47)) ((f157 80 (by decide)).trans (f17 80 (by decide))) hI107
      have I201 : jI109 σ155 := jI109_fr ((f158 50 (by decide)).trans (congrFun (f17 55 (by decide)) 50)) hI109
      have I202 : jI110 σ155 := jI110_fr ((f157 86 (by decide)).trans (f17 86 (by decide))) ((f157 87 (by decide)).trans (f17 87 (by decide))) hI110
      have I203 : jI111 σ155 := jI111_fr ((f157 79 (by decide)).trans (f17 79 (by decide))) hI111
      have I204 : jI119 σ155 := jI119_fr ((f157 68 (by decide)).trans (f17 68 (by decide))) hI119
      have p205 : jKept σ155 := jKept.fr ((f157 75 (by decide)).trans (f17 75 (by decide))) ((f157 76 (by decide)).trans (f17 76 (by decide))) ((f157 77 (by decide)).trans (f17 77 (by decide))) hs_jKept
      have p206 : jBook σ155 := jBook.fr ((f158 47 (by decide)).trans (congrFun (f17 55 (by decide)) 47)) ((f158 10 (by decide)).trans (congrFun (f17 55 (by decide)) 10)) ((f157 81 (by decide)).trans (f17 81 (by decide))) hs_jBook
      have z207 : (σ155 38 0).toInt = (σ15 38 0).toInt := (congrArg Int32.toInt (show σ155 38 0 = (σ15 38 0) from (congrFun (f157 38 (by decide)) 0)))
      rw [show (σ 38 0).toInt = (σ 55 32).toInt from by omega] at k151
      rw [show (σ15 55 32).toInt = (σ 55 32).toInt from by omega, show σ15 70 = σ 70 from (f17 70 (by decide))] at k181
      have p208 : jKd (σ155 39) (σ155 70) (σ155 55 32).toInt := hr1.on (by rw [show σ155 39 = σ15 39 from (f157 39 (by decide))]; exact k151) k181 (by omega) (by omega)
      exact ih x183 σ155 τ _ _ ls (by have h9 := tx183; omega) ⟨I184, I185, I186, I187, I188, I189, I190, I191, I192, I193, I194, I195, I196, I197, I198, I199, I159, I200, I201, I202, I203, I204, p205, p206, (by omega), (show jShP (σ155 51) (σ155 52) (σ155 53) (σ155 86) (σ155 87) (σ155 55 32).toInt by rw [show σ155 51 = σ 51 from ((f157 51 (by decide)).trans (f17 51 (by decide))), show σ155 52 = σ 52 from ((f157 52 (by decide)).trans (f17 52 (by decide))), show σ155 53 = σ 53 from ((f157 53 (by decide)).trans (f17 53 (by decide))), show σ155 86 = σ 86 from ((f157 86 (by decide)).trans (f17 86 (by decide))), show σ155 87 = σ 87 from ((f157 87 (by decide)).trans (f17 87 (by decide)))]; exact (hr0.up (by omega) (by omega))), p208⟩ hP hS (lv_sub hl [0, 1, 2, 3] rfl)
set_option maxHeartbeats 4000000 in
set_option maxRecDepth 100000 in
theorem law_case_10 {p : Program} {e : Env} {s : State} {m : MethodId} {below : List Frame} {meth : Method} {c : Code} (l : Launch) {b L : Nat} {xs : Nat → Int32} {D : va_G} {cI cL : ClassId} {ad zz : Nat → Nat} (C0 : lw_At p s m meth c b L xs) (hJ : jD ad) (hA : ∀ q, jA ad q → s.heap.size ≤ q) (hK : jK D cI cL s) (hZ : jZ zz (fun q : Nat => s.heap.size ≤ q) s s.heap) {x0 : Int32} (hx0 : 0 ≤ x0.toInt) (hxL : x0.toInt + 6 ≤ (L : Int)) (hL : L ≤ 384) {σ : Nat → Nat → Int32} {τ : Nat → Nat → Int64} {H : Heap} {locs : List Loc} (hS : va_S (fun q : Nat => s.heap.size ≤ q) s.heap H locs) {ls : Array Slot} (hAll : jAll σ τ) (hP : jH D cI cL ad σ τ H) (hl : lv_has ls 4 [(3, .int x0), (2, .ref (ad 55)), (1, .ref (ad 0)), (0, .ref b)]) (ih : ∀ (x1 : Int32) (σ : Nat → Nat → Int32) (τ : Nat → Nat → Int64) (H : Heap) (locs : List Loc) (ls : Array Slot), x1.toInt = x0.toInt + 6 → jAll σ τ → jH D cI cL ad σ τ H → va_S (fun q : Nat => s.heap.size ≤ q) s.heap H locs → lv_has ls 4 [(3, .int x1), (2, .ref (ad 55)), (1, .ref (ad 0)), (0, .ref b)] → W p l e room_1 s m #[Value.ref b] below meth c H locs 90 348600 (lw_Z below #[Value.ref b] s) (F0 m 18 ls [])) : W p l e room_1 s m #[Value.ref b] below meth c H locs 90 348600 (lw_Z below #[Value.ref b] s) (F0 m 526 ls []) := by
  obtain ⟨hx, hb, hr, hml, hown, hts0, hX, hbl, hlocks, hgv⟩ := C0
  have hts : ∀ w ∈ wsL_law, w.before #[Value.ref b] s = true := fun w h => hts0 w (wsL_law_in w h)
  have hbA : ¬ (fun q : Nat => s.heap.size ≤ q) b := Nat.not_le.mpr hbl
  have hown : s.vm.findClass RL = some m.cls := hown
  obtain ⟨hI2, hI9, hI12, hI16, hI18, hI22, hI31, hI38, hI43, hI47, hI50, hI101, hI102, hI103, hI104, hI105, hI106, hI107, hI109, hI110, hI111, hI119, hs_jKept, hs_jBook, ht0, hr0, hr1⟩ := hAll
  have hL9 : (L : Int) ≤ 384 := by omega
  obtain ⟨i1, i2, w3⟩ : (0 ≤ (σ 38 0).toInt ∧ (σ 38 0).toInt ≤ 20) ∧ (0 ≤ (σ 38 1).toInt ∧ (σ 38 1).toInt ≤ 1000) ∧ (∀ k : Nat, k < 20 → 0 ≤ (σ 39 k).toInt ∧ (σ 39 k).toInt ≤ 6) := id hI38
  obtain ⟨i4, w5, w6, w7⟩ : (0 ≤ (σ 55 32).toInt ∧ (σ 55 32).toInt ≤ 20) ∧ (∀ k : Nat, k < 20 → 0 ≤ (σ 70 k).toInt ∧ (σ 70 k).toInt ≤ 6) ∧ (∀ k : Nat, k < 20 → 0 ≤ (σ 71 k).toInt ∧ (σ 71 k).toInt ≤ 8) ∧ (∀ k : Nat, k < 160 → 0 ≤ (σ 72 k).toInt ∧ (σ 72 k).toInt ≤ 3) := id hI106
  refine lv_aload_n hx hb dL_law_526 rfl (lv_at hl 2 rfl) ?_
  refine lv_aload_n hx hb dL_law_527 rfl (lv_at hl 3 rfl) ?_
  refine lv_iload_n hx hb dL_law_528 rfl (lv_at hl 0 rfl) ?_
  refine lv_iconst (v := 1) hx hb dL_law_529 (by decide) ?_
  have g8 := jrg (rfl : x0.toInt = x0.toInt)
  refine lv_iadd hx hb dL_law_530 ?_
  refine lv_topi (fun x9 ex9 => ?_)
  have tx9 : x9.toInt = x0.toInt + 1 := (jadd ex9 rfl jz_1 (by omega) (by omega)).trans (by omega)
  refine va_sld hx hb hX hbl hbA hS (jin tx9 (by omega) (by omega)) dL_law_531 ?_
  have g10 := jrg (rfl : (xs x9.toNatClampNeg).toInt = (xs x9.toNatClampNeg).toInt)
  refine jcallV (As := [.int (xs x9.toNatClampNeg)]) (rest := []) ⟨hx, hb, hml, hown, hts⟩ hK hP hA hS hZ (c_X11_puts l D cI cL ad zz hJ σ τ (xs x9.toNatClampNeg) ((xs x9.toNatClampNeg).toInt) rfl hI2 hI16 hI18 hI22 hI31 hI38 hI47) cw_RL_57 (jc_0 cI cL ad σ τ) rfl ⟨Nat.le_of_ble_eq_true rfl, Nat.le_of_ble_eq_true rfl⟩ rfl rfl rfl hl.1 rfl (Nat.le_of_ble_eq_true rfl) dL_law_532 ⟨Nat.le_of_ble_eq_true rfl, Nat.le_of_ble_eq_true rfl⟩ (fun r12 σ11 τ11 H locs h11 hP hS => ?_)
  obtain ⟨rfl, f13, f14, I15, h11⟩ := h11
  refine lv_pop hx hb dL_law_535 rfl ?_
  refine lv_aload_n hx hb dL_law_536 rfl (lv_at hl 1 rfl) ?_
  refine lv_aload_n hx hb dL_law_537 rfl (lv_at hl 3 rfl) ?_
  refine lv_iload_n hx hb dL_law_538 rfl (lv_at hl 0 rfl) ?_
  refine lv_iconst (v := 1) hx hb dL_law_539 (by decide) ?_
  refine lv_iadd hx hb dL_law_540 ?_
  refine jtopr ex9.symm ?_
  refine va_sld hx hb hX hbl hbA hS (jin tx9 (by omega) (by omega)) dL_law_541 ?_
  have I17 : jI101 σ11 := jI101_fr (congrFun (f13 55 (by decide)) 4) (congrFun (f13 55 (by decide)) 5) (f13 56 (by decide)) (f13 57 (by decide)) (f13 58 (by decide)) (f13 59 (by decide)) hI101
  have I18 : jI102 σ11 := jI102_fr (congrFun (f13 55 (by decide)) 6) (f13 60 (by decide)) (f13 61 (by decide)) hI102
  have I19 : jI103 σ11 := jI103_fr (congrFun (f13 55 (by decide)) 9) hI103
  have I20 : jI104 σ11 := jI104_fr (congrFun (f13 55 (by decide)) 10) (congrFun (f13 55 (by decide)) 12) (congrFun (f13 55 (by decide)) 13) (f13 62 (by decide)) (f13 67 (by decide)) hI104
  have I21 : jI105 σ11 := jI105_fr (congrFun (f13 55 (by decide)) 15) (f13 65 (by decide)) hI105
  have I22 : jI106 σ11 := jI106_fr (congrFun (f13 55 (by decide)) 32) (f13 70 (by decide)) (f13 71 (by decide)) (f13 72 (by decide)) hI106
  have I23 : jI107 σ11 := jI107_fr (congrFun (f13 55 (by decide)) 12) (congrFun (f13 55 (by decide)) 47) (f13 80 (by decide)) hI107
  have I24 : jI119 σ11 := jI119_fr (f13 68 (by decide)) hI119
  have p25 : jKept σ11 := jKept.fr (f13 75 (by decide)) (f13 76 (by decide)) (f13 77 (by decide)) hs_jKept
  have p26 : jBook σ11 := jBook.fr (congrFun (f13 55 (by decide)) 47) (congrFun (f13 55 (by decide)) 10) (f13 81 (by decide)) hs_jBook
  refine jcallV (As := [.int (xs x9.toNatClampNeg)]) (rest := []) ⟨hx, hb, hml, hown, hts⟩ hK hP hA hS hZ (c_X12_puts l D cI cL ad zz hJ σ11 τ (xs x9.toNatClampNeg) ((xs x9.toNatClampNeg).toInt) rfl I17 I18 I19 I20 I21 I22 I23 I24 p25 p26) cw_RL_60 (jc_55 cI cL ad σ11 τ) rfl ⟨Nat.le_of_ble_eq_true rfl, Nat.le_of_ble_eq_true rfl⟩ rfl rfl rfl hl.1 rfl (Nat.le_of_ble_eq_true rfl) dL_law_542 ⟨Nat.le_of_ble_eq_true rfl, Nat.le_of_ble_eq_true rfl⟩ (fun r28 σ27 τ27 H locs h27 hP hS => ?_)
  obtain ⟨rfl, f29, f30, I31, p32, p33, h27⟩ := h27
  refine lv_pop hx hb dL_law_545 rfl ?_
  refine lv_goto (tgt := 1357) hx hb dL_law_546 (by decide) ?_
  obtain ⟨x35, ex35⟩ : ∃ y : Int32, y = x0 + 6 := ⟨_, rfl⟩
  have tx35 : x35.toInt = x0.toInt + 6 := (jadd ex35 rfl jz_6 (by omega) (by omega)).trans (by omega)
  refine lv_iinc (v := x35) (lv' := [(3, .int x35), (2, .ref (ad 55)), (1, .ref (ad 0)), (0, .ref b)]) hx hb dL_law_1357 hl (k := 0) rfl (by rw [ex35]; rfl) (by decide) rfl (fun ls hl => ?_)
  refine lv_goto (tgt := 18) hx hb dL_law_1360 (by decide) ?_
  have I36 : jI2 σ27 := jI2_fr ((congrFun (f29 2 (by decide)) 0).trans (congrFun (f13 2 (by decide)) 0)) ((congrFun (f29 2 (by decide)) 1).trans (congrFun (f13 2 (by decide)) 1)) ((congrFun (f29 2 (by decide)) 2).trans (congrFun (f13 2 (by decide)) 2)) ((congrFun (f29 2 (by decide)) 3).trans (congrFun (f13 2 (by decide)) 3)) ((f29 6 (by decide)).trans (f13 6 (by decide))) hI2
  have I37 : jI9 σ27 := jI9_fr ((congrFun (f29 9 (by decide)) 0).trans (congrFun (f13 9 (by decide)) 0)) ((f29 10 (by decide)).trans (f13 10 (by decide))) ((f29 11 (by decide)).trans (f13 11 (by decide))) hI9
  have I38 : jI12 σ27 := jI12_fr ((congrFun (f29 12 (by decide)) 0).trans (congrFun (f13 12 (by decide)) 0)) ((f29 13 (by decide)).trans (f13 13 (by decide))) hI12
  have I39 : jI16 σ27 := jI16_fr ((congrFun (f29 16 (by decide)) 0).trans (congrFun (f13 16 (by decide)) 0)) ((congrFun (f29 16 (by decide)) 1).trans (congrFun (f13 16 (by decide)) 1)) ((congrFun (f29 16 (by decide)) 2).trans (congrFun (f13 16 (by decide)) 2)) ((f29 17 (by decide)).trans (f13 17 (by decide))) hI16
  have I40 : jI18 σ27 := jI18_fr ((congrFun (f29 18 (by decide)) 0).trans (congrFun (f13 18 (by decide)) 0)) ((f29 19 (by decide)).trans (f13 19 (by decide))) hI18
  have I41 : jI22 σ27 := jI22_fr ((congrFun (f29 22 (by decide)) 0).trans (congrFun (f13 22 (by decide)) 0)) ((f29 23 (by decide)).trans (f13 23 (by decide))) hI22
  have I42 : jI31 σ27 := jI31_fr (congrFun (f29 31 (by decide)) 8) (f29 33 (by decide)) (f29 36 (by decide)) I15
  have I43 : jI38 σ27 := jI38_fr ((congrFun (f29 38 (by decide)) 0).trans (congrFun (f13 38 (by decide)) 0)) ((congrFun (f29 38 (by decide)) 1).trans (congrFun (f13 38 (by decide)) 1)) ((f29 39 (by decide)).trans (f13 39 (by decide))) hI38
  have I44 : jI43 σ27 := jI43_fr ((congrFun (f29 43 (by decide)) 8).trans (congrFun (f13 43 (by decide)) 8)) hI43
  have I45 : jI47 σ27 := jI47_fr ((congrFun (f29 47 (by decide)) 0).trans (congrFun (f13 47 (by decide)) 0)) ((f29 48 (by decide)).trans (f13 48 (by decide))) ((f29 49 (by decide)).trans (f13 49 (by decide))) hI47
  have I46 : jI50 σ27 := jI50_fr ((f29 52 (by decide)).trans (f13 52 (by decide))) hI50
  have I47 : jI101 σ27 := jI101_fr (f30 4 (by decide)) (f30 5 (by decide)) (f29 56 (by decide)) (f29 57 (by decide)) (f29 58 (by decide)) (f29 59 (by decide)) I17
  have I48 : jI102 σ27 := jI102_fr (f30 6 (by decide)) (f29 60 (by decide)) (f29 61 (by decide)) I18
  have I49 : jI103 σ27 := jI103_fr (f30 9 (by decide)) I19
  have I50 : jI104 σ27 := jI104_fr (f30 10 (by decide)) (f30 12 (by decide)) (f30 13 (by decide)) (f29 62 (by decide)) (f29 67 (by decide)) I20
  have I51 : jI105 σ27 := jI105_fr (f30 15 (by decide)) (f29 65 (by decide)) I21
  have I52 : jI106 σ27 := jI106_fr (f30 32 (by decide)) (f29 70 (by decide)) (f29 71 (by decide)) (f29 72 (by decide)) I22
  have I53 : jI107 σ27 := jI107_fr (f30 12 (by decide)) (f30 47 (by decide)) (f29 80 (by decide)) I23
  have I54 : jI109 σ27 := jI109_fr ((f30 50 (by decide)).trans (congrFun (f13 55 (by decide)) 50)) hI109
  have I55 : jI110 σ27 := jI110_fr ((f29 86 (by decide)).trans (f13 86 (by decide))) ((f29 87 (by decide)).trans (f13 87 (by decide))) hI110
  have I56 : jI111 σ27 := jI111_fr ((f29 79 (by decide)).trans (f13 79 (by decide))) hI111
  have z57 : (σ27 38 0).toInt = (σ 38 0).toInt := (congrArg Int32.toInt (show σ27 38 0 = (σ 38 0) from ((congrFun (f29 38 (by decide)) 0).trans (congrFun (f13 38 (by decide)) 0))))
  have z58 : (σ27 55 32).toInt = (σ 55 32).toInt := (congrArg Int32.toInt (show σ27 55 32 = (σ 55 32) from ((f30 32 (by decide)).trans (congrFun (f13 55 (by decide)) 32))))
  exact ih x35 σ27 τ _ _ ls (by have h9 := tx35; omega) ⟨I36, I37, I38, I39, I40, I41, I42, I43, I44, I45, I46, I47, I48, I49, I50, I51, I52, I53, I54, I55, I56, I31, p32, p33, (by omega), (show jShP (σ27 51) (σ27 52) (σ27 53) (σ27 86) (σ27 87) (σ27 55 32).toInt by rw [show σ27 51 = σ 51 from ((f29 51 (by decide)).trans (f13 51 (by decide))), show σ27 52 = σ 52 from ((f29 52 (by decide)).trans (f13 52 (by decide))), show σ27 53 = σ 53 from ((f29 53 (by decide)).trans (f13 53 (by decide))), show σ27 86 = σ 86 from ((f29 86 (by decide)).trans (f13 86 (by decide))), show σ27 87 = σ 87 from ((f29 87 (by decide)).trans (f13 87 (by decide)))]; exact (hr0.up (by omega) (by omega))), (show jKd (σ27 39) (σ27 70) (σ27 55 32).toInt by rw [show σ27 39 = σ 39 from ((f29 39 (by decide)).trans (f13 39 (by decide))), show σ27 70 = σ 70 from ((f29 70 (by decide)).trans (f13 70 (by decide))), show (σ27 55 32).toInt = (σ 55 32).toInt from by omega]; exact hr1)⟩ hP hS (lv_sub hl [0, 1, 2, 3] rfl)
set_option maxHeartbeats 4000000 in
set_option maxRecDepth 100000 in
theorem law_case_11 {p : Program} {e : Env} {s : State} {m : MethodId} {below : List Frame} {meth : Method} {c : Code} (l : Launch) {b L : Nat} {xs : Nat → Int32} {D : va_G} {cI cL : ClassId} {ad zz : Nat → Nat} (C0 : lw_At p s m meth c b L xs) (hJ : jD ad) (hA : ∀ q, jA ad q → s.heap.size ≤ q) (hK : jK D cI cL s) (hZ : jZ zz (fun q : Nat => s.heap.size ≤ q) s s.heap) {x0 : Int32} (hx0 : 0 ≤ x0.toInt) (hxL : x0.toInt + 6 ≤ (L : Int)) (hL : L ≤ 384) {σ : Nat → Nat → Int32} {τ : Nat → Nat → Int64} {H : Heap} {locs : List Loc} (hS : va_S (fun q : Nat => s.heap.size ≤ q) s.heap H locs) {ls : Array Slot} (hAll : jAll σ τ) (hP : jH D cI cL ad σ τ H) (hl : lv_has ls 4 [(3, .int x0), (2, .ref (ad 55)), (1, .ref (ad 0)), (0, .ref b)]) (ih : ∀ (x1 : Int32) (σ : Nat → Nat → Int32) (τ : Nat → Nat → Int64) (H : Heap) (locs : List Loc) (ls : Array Slot), x1.toInt = x0.toInt + 6 → jAll σ τ → jH D cI cL ad σ τ H → va_S (fun q : Nat => s.heap.size ≤ q) s.heap H locs → lv_has ls 4 [(3, .int x1), (2, .ref (ad 55)), (1, .ref (ad 0)), (0, .ref b)] → W p l e room_1 s m #[Value.ref b] below meth c H locs 90 348600 (lw_Z below #[Value.ref b] s) (F0 m 18 ls [])) : W p l e room_1 s m #[Value.ref b] below meth c H locs 90 348600 (lw_Z below #[Value.ref b] s) (F0 m 549 ls []) := by
  obtain ⟨hx, hb, hr, hml, hown, hts0, hX, hbl, hlocks, hgv⟩ := C0
  have hts : ∀ w ∈ wsL_law, w.before #[Value.ref b] s = true := fun w h => hts0 w (wsL_law_in w h)
  have hbA : ¬ (fun q : Nat => s.heap.size ≤ q) b := Nat.not_le.mpr hbl
  have hown : s.vm.findClass RL = some m.cls := hown
  obtain ⟨hI2, hI9, hI12, hI16, hI18, hI22, hI31, hI38, hI43, hI47, hI50, hI101, hI102, hI103, hI104, hI105, hI106, hI107, hI109, hI110, hI111, hI119, hs_jKept, hs_jBook, ht0, hr0, hr1⟩ := hAll
  have hL9 : (L : Int) ≤ 384 := by omega
  obtain ⟨i1, i2, w3⟩ : (0 ≤ (σ 38 0).toInt ∧ (σ 38 0).toInt ≤ 20) ∧ (0 ≤ (σ 38 1).toInt ∧ (σ 38 1).toInt ≤ 1000) ∧ (∀ k : Nat, k < 20 → 0 ≤ (σ 39 k).toInt ∧ (σ 39 k).toInt ≤ 6) := id hI38
  obtain ⟨i4, w5, w6, w7⟩ : (0 ≤ (σ 55 32).toInt ∧ (σ 55 32).toInt ≤ 20) ∧ (∀ k : Nat, k < 20 → 0 ≤ (σ 70 k).toInt ∧ (σ 70 k).toInt ≤ 6) ∧ (∀ k : Nat, k < 20 → 0 ≤ (σ 71 k).toInt ∧ (σ 71 k).toInt ≤ 8) ∧ (∀ k : Nat, k < 160 → 0 ≤ (σ 72 k).toInt ∧ (σ 72 k).toInt ≤ 3) := id hI106
  refine lv_aload_n hx hb dL_law_549 rfl (lv_at hl 2 rfl) ?_
  refine lv_aload_n hx hb dL_law_550 rfl (lv_at hl 3 rfl) ?_
  refine lv_iload_n hx hb dL_law_551 rfl (lv_at hl 0 rfl) ?_
  refine lv_iconst (v := 1) hx hb dL_law_552 (by decide) ?_
  have g8 := jrg (rfl : x0.toInt = x0.toInt)
  refine lv_iadd hx hb dL_law_553 ?_
  refine lv_topi (fun x9 ex9 => ?_)
  have tx9 : x9.toInt = x0.toInt + 1 := (jadd ex9 rfl jz_1 (by omega) (by omega)).trans (by omega)
  refine va_sld hx hb hX hbl hbA hS (jin tx9 (by omega) (by omega)) dL_law_554 ?_
  have g10 := jrg (rfl : (xs x9.toNatClampNeg).toInt = (xs x9.toNatClampNeg).toInt)
  refine jcallV (As := [.int (xs x9.toNatClampNeg)]) (rest := []) ⟨hx, hb, hml, hown, hts⟩ hK hP hA hS hZ (c_X11_mean l D cI cL ad zz hJ σ τ (xs x9.toNatClampNeg) ((xs x9.toNatClampNeg).toInt) rfl hI2 hI16 hI18 hI22 hI31 hI38) cw_RL_61 (jc_0 cI cL ad σ τ) rfl ⟨Nat.le_of_ble_eq_true rfl, Nat.le_of_ble_eq_true rfl⟩ rfl rfl rfl hl.1 rfl (Nat.le_of_ble_eq_true rfl) dL_law_555 ⟨Nat.le_of_ble_eq_true rfl, Nat.le_of_ble_eq_true rfl⟩ (fun r12 σ11 τ11 H locs h11 hP hS => ?_)
  obtain ⟨rfl, f13, f14, I15, h11⟩ := h11
  refine lv_pop hx hb dL_law_558 rfl ?_
  refine lv_aload_n hx hb dL_law_559 rfl (lv_at hl 1 rfl) ?_
  refine lv_aload_n hx hb dL_law_560 rfl (lv_at hl 3 rfl) ?_
  refine lv_iload_n hx hb dL_law_561 rfl (lv_at hl 0 rfl) ?_
  refine lv_iconst (v := 1) hx hb dL_law_562 (by decide) ?_
  refine lv_iadd hx hb dL_law_563 ?_
  refine jtopr ex9.symm ?_
  refine va_sld hx hb hX hbl hbA hS (jin tx9 (by omega) (by omega)) dL_law_564 ?_
  have I17 : jI101 σ11 := jI101_fr (congrFun (f13 55 (by decide)) 4) (congrFun (f13 55 (by decide)) 5) (f13 56 (by decide)) (f13 57 (by decide)) (f13 58 (by decide)) (f13 59 (by decide)) hI101
  have I18 : jI102 σ11 := jI102_fr (congrFun (f13 55 (by decide)) 6) (f13 60 (by decide)) (f13 61 (by decide)) hI102
  have I19 : jI103 σ11 := jI103_fr (congrFun (f13 55 (by decide)) 9) hI103
  have I20 : jI104 σ11 := jI104_fr (congrFun (f13 55 (by decide)) 10) (congrFun (f13 55 (by decide)) 12) (congrFun (f13 55 (by decide)) 13) (f13 62 (by decide)) (f13 67 (by decide)) hI104
  have I21 : jI105 σ11 := jI105_fr (congrFun (f13 55 (by decide)) 15) (f13 65 (by decide)) hI105
  have I22 : jI106 σ11 := jI106_fr (congrFun (f13 55 (by decide)) 32) (f13 70 (by decide)) (f13 71 (by decide)) (f13 72 (by decide)) hI106
  have I23 : jI119 σ11 := jI119_fr (f13 68 (by decide)) hI119
  have p24 : jKept σ11 := jKept.fr (f13 75 (by decide)) (f13 76 (by decide)) (f13 77 (by decide)) hs_jKept
  refine jcallV (As := [.int (xs x9.toNatClampNeg)]) (rest := []) ⟨hx, hb, hml, hown, hts⟩ hK hP hA hS hZ (c_X12_mean l D cI cL ad zz hJ σ11 τ (xs x9.toNatClampNeg) ((xs x9.toNatClampNeg).toInt) rfl I17 I18 I19 I20 I21 I22 I23 p24) cw_RL_64 (jc_55 cI cL ad σ11 τ) rfl ⟨Nat.le_of_ble_eq_true rfl, Nat.le_of_ble_eq_true rfl⟩ rfl rfl rfl hl.1 rfl (Nat.le_of_ble_eq_true rfl) dL_law_565 ⟨Nat.le_of_ble_eq_true rfl, Nat.le_of_ble_eq_true rfl⟩ (fun r26 σ25 τ25 H locs h25 hP hS => ?_)
  obtain ⟨rfl, f27, f28, I29, p30, h25⟩ := h25
  refine lv_pop hx hb dL_law_568 rfl ?_
  refine lv_goto (tgt := 1357) hx hb dL_law_569 (by decide) ?_
  obtain ⟨x32, ex32⟩ : ∃ y : Int32, y = x0 + 6 := ⟨_, rfl⟩
  have tx32 : x32.toInt = x0.toInt + 6 := (jadd ex32 rfl jz_6 (by omega) (by omega)).trans (by omega)
  refine lv_iinc (v := x32) (lv' := [(3, .int x32), (2, .ref (ad 55)), (1, .ref (ad 0)), (0, .ref b)]) hx hb dL_law_1357 hl (k := 0) rfl (by rw [ex32]; rfl) (by decide) rfl (fun ls hl => ?_)
  refine lv_goto (tgt := 18) hx hb dL_law_1360 (by decide) ?_
  have I33 : jI2 σ25 := jI2_fr ((congrFun (f27 2 (by decide)) 0).trans (congrFun (f13 2 (by decide)) 0)) ((congrFun (f27 2 (by decide)) 1).trans (congrFun (f13 2 (by decide)) 1)) ((congrFun (f27 2 (by decide)) 2).trans (congrFun (f13 2 (by decide)) 2)) ((congrFun (f27 2 (by decide)) 3).trans (congrFun (f13 2 (by decide)) 3)) ((f27 6 (by decide)).trans (f13 6 (by decide))) hI2
  have I34 : jI9 σ25 := jI9_fr ((congrFun (f27 9 (by decide)) 0).trans (congrFun (f13 9 (by decide)) 0)) ((f27 10 (by decide)).trans (f13 10 (by decide))) ((f27 11 (by decide)).trans (f13 11 (by decide))) hI9
  have I35 : jI12 σ25 := jI12_fr ((congrFun (f27 12 (by decide)) 0).trans (congrFun (f13 12 (by decide)) 0)) ((f27 13 (by decide)).trans (f13 13 (by decide))) hI12
  have I36 : jI16 σ25 := jI16_fr ((congrFun (f27 16 (by decide)) 0).trans (congrFun (f13 16 (by decide)) 0)) ((congrFun (f27 16 (by decide)) 1).trans (congrFun (f13 16 (by decide)) 1)) ((congrFun (f27 16 (by decide)) 2).trans (congrFun (f13 16 (by decide)) 2)) ((f27 17 (by decide)).trans (f13 17 (by decide))) hI16
  have I37 : jI18 σ25 := jI18_fr ((congrFun (f27 18 (by decide)) 0).trans (congrFun (f13 18 (by decide)) 0)) ((f27 19 (by decide)).trans (f13 19 (by decide))) hI18
  have I38 : jI22 σ25 := jI22_fr ((congrFun (f27 22 (by decide)) 0).trans (congrFun (f13 22 (by decide)) 0)) ((f27 23 (by decide)).trans (f13 23 (by decide))) hI22
  have I39 : jI31 σ25 := jI31_fr (congrFun (f27 31 (by decide)) 8) (f27 33 (by decide)) (f27 36 (by decide)) I15
  have I40 : jI38 σ25 := jI38_fr ((congrFun (f27 38 (by decide)) 0).trans (congrFun (f13 38 (by decide)) 0)) ((congrFun (f27 38 (by decide)) 1).trans (congrFun (f13 38 (by decide)) 1)) ((f27 39 (by decide)).trans (f13 39 (by decide))) hI38
  have I41 : jI43 σ25 := jI43_fr ((congrFun (f27 43 (by decide)) 8).trans (congrFun (f13 43 (by decide)) 8)) hI43
  have I42 : jI47 σ25 := jI47_fr ((congrFun (f27 47 (by decide)) 0).trans (congrFun (f13 47 (by decide)) 0)) ((f27 48 (by decide)).trans (f13 48 (by decide))) ((f27 49 (by decide)).trans (f13 49 (by decide))) hI47
  have I43 : jI50 σ25 := jI50_fr ((f27 52 (by decide)).trans (f13 52 (by decide))) hI50
  have I44 : jI101 σ25 := jI101_fr (f28 4 (by decide)) (f28 5 (by decide)) (f27 56 (by decide)) (f27 57 (by decide)) (f27 58 (by decide)) (f27 59 (by decide)) I17
  have I45 : jI102 σ25 := jI102_fr (f28 6 (by decide)) (f27 60 (by decide)) (f27 61 (by decide)) I18
  have I46 : jI103 σ25 := jI103_fr (f28 9 (by decide)) I19
  have I47 : jI104 σ25 := jI104_fr (f28 10 (by decide)) (f28 12 (by decide)) (f28 13 (by decide)) (f27 62 (by decide)) (f27 67 (by decide)) I20
  have I48 : jI105 σ25 := jI105_fr (f28 15 (by decide)) (f27 65 (by decide)) I21
  have I49 : jI106 σ25 := jI106_fr (f28 32 (by decide)) (f27 70 (by decide)) (f27 71 (by decide)) (f27 72 (by decide)) I22
  have I50 : jI107 σ25 := jI107_fr ((f28 12 (by decide)).trans (congrFun (f13 55 (by decide)) 12)) ((f28 47 (by decide)).trans (congrFun (f13 55 (by decide)) 47)) ((f27 80 (by decide)).trans (f13 80 (by decide))) hI107
  have I51 : jI109 σ25 := jI109_fr ((f28 50 (by decide)).trans (congrFun (f13 55 (by decide)) 50)) hI109
  have I52 : jI110 σ25 := jI110_fr ((f27 86 (by decide)).trans (f13 86 (by decide))) ((f27 87 (by decide)).trans (f13 87 (by decide))) hI110
  have I53 : jI111 σ25 := jI111_fr ((f27 79 (by decide)).trans (f13 79 (by decide))) hI111
  have p54 : jBook σ25 := jBook.fr ((f28 47 (by decide)).trans (congrFun (f13 55 (by decide)) 47)) ((f28 10 (by decide)).trans (congrFun (f13 55 (by decide)) 10)) ((f27 81 (by decide)).trans (f13 81 (by decide))) hs_jBook
  have z55 : (σ25 38 0).toInt = (σ 38 0).toInt := (congrArg Int32.toInt (show σ25 38 0 = (σ 38 0) from ((congrFun (f27 38 (by decide)) 0).trans (congrFun (f13 38 (by decide)) 0))))
  have z56 : (σ25 55 32).toInt = (σ 55 32).toInt := (congrArg Int32.toInt (show σ25 55 32 = (σ 55 32) from ((f28 32 (by decide)).trans (congrFun (f13 55 (by decide)) 32))))
  exact ih x32 σ25 τ _ _ ls (by have h9 := tx32; omega) ⟨I33, I34, I35, I36, I37, I38, I39, I40, I41, I42, I43, I44, I45, I46, I47, I48, I49, I50, I51, I52, I53, I29, p30, p54, (by omega), (show jShP (σ25 51) (σ25 52) (σ25 53) (σ25 86) (σ25 87) (σ25 55 32).toInt by rw [show σ25 51 = σ 51 from ((f27 51 (by decide)).trans (f13 51 (by decide))), show σ25 52 = σ 52 from ((f27 52 (by decide)).trans (f13 52 (by decide))), show σ25 53 = σ 53 from ((f27 53 (by decide)).trans (f13 53 (by decide))), show σ25 86 = σ 86 from ((f27 86 (by decide)).trans (f13 86 (by decide))), show σ25 87 = σ 87 from ((f27 87 (by decide)).trans (f13 87 (by decide)))]; exact (hr0.up (by omega) (by omega))), (show jKd (σ25 39) (σ25 70) (σ25 55 32).toInt by rw [show σ25 39 = σ 39 from ((f27 39 (by decide)).trans (f13 39 (by decide))), show σ25 70 = σ 70 from ((f27 70 (by decide)).trans (f13 70 (by decide))), show (σ25 55 32).toInt = (σ 55 32).toInt from by omega]; exact hr1)⟩ hP hS (lv_sub hl [0, 1, 2, 3] rfl)
set_option maxHeartbeats 4000000 in
set_option maxRecDepth 100000 in
theorem law_case_12 {p : Program} {e : Env} {s : State} {m : MethodId} {below : List Frame} {meth : Method} {c : Code} (l : Launch) {b L : Nat} {xs : Nat → Int32} {D : va_G} {cI cL : ClassId} {ad zz : Nat → Nat} (C0 : lw_At p s m meth c b L xs) (hJ : jD ad) (hA : ∀ q, jA ad q → s.heap.size ≤ q) (hK : jK D cI cL s) (hZ : jZ zz (fun q : Nat => s.heap.size ≤ q) s s.heap) {x0 : Int32} (hx0 : 0 ≤ x0.toInt) (hxL : x0.toInt + 6 ≤ (L : Int)) (hL : L ≤ 384) {σ : Nat → Nat → Int32} {τ : Nat → Nat → Int64} {H : Heap} {locs : List Loc} (hS : va_S (fun q : Nat => s.heap.size ≤ q) s.heap H locs) {ls : Array Slot} (hAll : jAll σ τ) (hP : jH D cI cL ad σ τ H) (hl : lv_has ls 4 [(3, .int x0), (2, .ref (ad 55)), (1, .ref (ad 0)), (0, .ref b)]) (ih : ∀ (x1 : Int32) (σ : Nat → Nat → Int32) (τ : Nat → Nat → Int64) (H : Heap) (locs : List Loc) (ls : Array Slot), x1.toInt = x0.toInt + 6 → jAll σ τ → jH D cI cL ad σ τ H → va_S (fun q : Nat => s.heap.size ≤ q) s.heap H locs → lv_has ls 4 [(3, .int x1), (2, .ref (ad 55)), (1, .ref (ad 0)), (0, .ref b)] → W p l e room_1 s m #[Value.ref b] below meth c H locs 90 348600 (lw_Z below #[Value.ref b] s) (F0 m 18 ls [])) : W p l e room_1 s m #[Value.ref b] below meth c H locs 90 348600 (lw_Z below #[Value.ref b] s) (F0 m 572 ls []) := by
  obtain ⟨hx, hb, hr, hml, hown, hts0, hX, hbl, hlocks, hgv⟩ := C0
  have hts : ∀ w ∈ wsL_law, w.before #[Value.ref b] s = true := fun w h => hts0 w (wsL_law_in w h)
  have hbA : ¬ (fun q : Nat => s.heap.size ≤ q) b := Nat.not_le.mpr hbl
  have hown : s.vm.findClass RL = some m.cls := hown
  obtain ⟨hI2, hI9, hI12, hI16, hI18, hI22, hI31, hI38, hI43, hI47, hI50, hI101, hI102, hI103, hI104, hI105, hI106, hI107, hI109, hI110, hI111, hI119, hs_jKept, hs_jBook, ht0, hr0, hr1⟩ := hAll
  have hL9 : (L : Int) ≤ 384 := by omega
  obtain ⟨i1, i2, w3⟩ : (0 ≤ (σ 38 0).toInt ∧ (σ 38 0).toInt ≤ 20) ∧ (0 ≤ (σ 38 1).toInt ∧ (σ 38 1).toInt ≤ 1000) ∧ (∀ k : Nat, k < 20 → 0 ≤ (σ 39 k).toInt ∧ (σ 39 k).toInt ≤ 6) := id hI38
  obtain ⟨i4, w5, w6, w7⟩ : (0 ≤ (σ 55 32).toInt ∧ (σ 55 32).toInt ≤ 20) ∧ (∀ k : Nat, k < 20 → 0 ≤ (σ 70 k).toInt ∧ (σ 70 k).toInt ≤ 6) ∧ (∀ k : Nat, k < 20 → 0 ≤ (σ 71 k).toInt ∧ (σ 71 k).toInt ≤ 8) ∧ (∀ k : Nat, k < 160 → 0 ≤ (σ 72 k).toInt ∧ (σ 72 k).toInt ≤ 3) := id hI106
  refine lv_aload_n hx hb dL_law_572 rfl (lv_at hl 2 rfl) ?_
  refine lv_aload_n hx hb dL_law_573 rfl (lv_at hl 3 rfl) ?_
  refine lv_iload_n hx hb dL_law_574 rfl (lv_at hl 0 rfl) ?_
  refine lv_iconst (v := 1) hx hb dL_law_575 (by decide) ?_
  have g8 := jrg (rfl : x0.toInt = x0.toInt)
  refine lv_iadd hx hb dL_law_576 ?_
  refine lv_topi (fun x9 ex9 => ?_)
  have tx9 : x9.toInt = x0.toInt + 1 := (jadd ex9 rfl jz_1 (by omega) (by omega)).trans (by omega)
  refine va_sld hx hb hX hbl hbA hS (jin tx9 (by omega) (by omega)) dL_law_577 ?_
  have g10 := jrg (rfl : (xs x9.toNatClampNeg).toInt = (xs x9.toNatClampNeg).toInt)
  refine lv_aload_n hx hb dL_law_578 rfl (lv_at hl 3 rfl) ?_
  refine lv_iload_n hx hb dL_law_579 rfl (lv_at hl 0 rfl) ?_
  refine lv_iconst (v := 2) hx hb dL_law_580 (by decide) ?_
  refine lv_iadd hx hb dL_law_581 ?_
  refine lv_topi (fun x11 ex11 => ?_)
  have tx11 : x11.toInt = x0.toInt + 2 := (jadd ex11 rfl jz_2 (by omega) (by omega)).trans (by omega)
  refine va_sld hx hb hX hbl hbA hS (jin tx11 (by omega) (by omega)) dL_law_582 ?_
  have g12 := jrg (rfl : (xs x11.toNatClampNeg).toInt = (xs x11.toNatClampNeg).toInt)
  refine jcallV (As := [.int (xs x9.toNatClampNeg), .int (xs x11.toNatClampNeg)]) (rest := []) ⟨hx, hb, hml, hown, hts⟩ hK hP hA hS hZ (c_X11_likely l D cI cL ad zz hJ σ τ (xs x9.toNatClampNeg) ((xs x9.toNatClampNeg).toInt) rfl (xs x11.toNatClampNeg) ((xs x11.toNatClampNeg).toInt) rfl hI2 hI16 hI18 hI22 hI31 hI38) cw_RL_65 (jc_0 cI cL ad σ τ) rfl ⟨Nat.le_of_ble_eq_true rfl, Nat.le_of_ble_eq_true rfl⟩ rfl rfl rfl hl.1 rfl (Nat.le_of_ble_eq_true rfl) dL_law_583 ⟨Nat.le_of_ble_eq_true rfl, Nat.le_of_ble_eq_true rfl⟩ (fun r14 σ13 τ13 H locs h13 hP hS => ?_)
  obtain ⟨rfl, f15, f16, I17, h13⟩ := h13
  refine lv_pop hx hb dL_law_586 rfl ?_
  refine lv_aload_n hx hb dL_law_587 rfl (lv_at hl 1 rfl) ?_
  refine lv_aload_n hx hb dL_law_588 rfl (lv_at hl 3 rfl) ?_
  refine lv_iload_n hx hb dL_law_589 rfl (lv_at hl 0 rfl) ?_
  refine lv_iconst (v := 1) hx hb dL_law_590 (by decide) ?_
  refine lv_iadd hx hb dL_law_591 ?_
  refine jtopr ex9.symm ?_
  refine va_sld hx hb hX hbl hbA hS (jin tx9 (by omega) (by omega)) dL_law_592 ?_
  refine lv_aload_n hx hb dL_law_593 rfl (lv_at hl 3 rfl) ?_
  refine lv_iload_n hx hb dL_law_594 rfl (lv_at hl 0 rfl) ?_
  refine lv_iconst (v := 2) hx hb dL_law_595 (by decide) ?_
  refine lv_iadd hx hb dL_law_596 ?_
  refine jtopr ex11.symm ?_
  refine va_sld hx hb hX hbl hbA hS (jin tx11 (by omega) (by omega)) dL_law_597 ?_
  have I19 : jI101 σ13 := jI101_fr (congrFun (f15 55 (by decide)) 4) (congrFun (f15 55 (by decide)) 5) (f15 56 (by decide)) (f15 57 (by decide)) (f15 58 (by decide)) (f15 59 (by decide)) hI101
  have I20 : jI102 σ13 := jI102_fr (congrFun (f15 55 (by decide)) 6) (f15 60 (by decide)) (f15 61 (by decide)) hI102
  have I21 : jI103 σ13 := jI103_fr (congrFun (f15 55 (by decide)) 9) hI103
  have I22 : jI104 σ13 := jI104_fr (congrFun (f15 55 (by decide)) 10) (congrFun (f15 55 (by decide)) 12) (congrFun (f15 55 (by decide)) 13) (f15 62 (by decide)) (f15 67 (by decide)) hI104
  have I23 : jI105 σ13 := jI105_fr (congrFun (f15 55 (by decide)) 15) (f15 65 (by decide)) hI105
  have I24 : jI106 σ13 := jI106_fr (congrFun (f15 55 (by decide)) 32) (f15 70 (by decide)) (f15 71 (by decide)) (f15 72 (by decide)) hI106
  have I25 : jI119 σ13 := jI119_fr (f15 68 (by decide)) hI119
  have p26 : jKept σ13 := jKept.fr (f15 75 (by decide)) (f15 76 (by decide)) (f15 77 (by decide)) hs_jKept
  refine jcallV (As := [.int (xs x9.toNatClampNeg), .int (xs x11.toNatClampNeg)]) (rest := []) ⟨hx, hb, hml, hown, hts⟩ hK hP hA hS hZ (c_X12_likely l D cI cL ad zz hJ σ13 τ (xs x9.toNatClampNeg) ((xs x9.toNatClampNeg).toInt) rfl (xs x11.toNatClampNeg) ((xs x11.toNatClampNeg).toInt) rfl I19 I20 I21 I22 I23 I24 I25 p26) cw_RL_68 (jc_55 cI cL ad σ13 τ) rfl ⟨Nat.le_of_ble_eq_true rfl, Nat.le_of_ble_eq_true rfl⟩ rfl rfl rfl hl.1 rfl (Nat.le_of_ble_eq_true rfl) dL_law_598 ⟨Nat.le_of_ble_eq_true rfl, Nat.le_of_ble_eq_true rfl⟩ (fun r28 σ27 τ27 H locs h27 hP hS => ?_)
  obtain ⟨rfl, f29, f30, I31, p32, h27⟩ := h27
  refine lv_pop hx hb dL_law_601 rfl ?_
  refine lv_goto (tgt := 1357) hx hb dL_law_602 (by decide) ?_
  obtain ⟨x34, ex34⟩ : ∃ y : Int32, y = x0 + 6 := ⟨_, rfl⟩
  have tx34 : x34.toInt = x0.toInt + 6 := (jadd ex34 rfl jz_6 (by omega) (by omega)).trans (by omega)
  refine lv_iinc (v := x34) (lv' := [(3, .int x34), (2, .ref (ad 55)), (1, .ref (ad 0)), (0, .ref b)]) hx hb dL_law_1357 hl (k := 0) rfl (by rw [ex34]; rfl) (by decide) rfl (fun ls hl => ?_)
  refine lv_goto (tgt := 18) hx hb dL_law_1360 (by decide) ?_
  have I35 : jI2 σ27 := jI2_fr ((congrFun (f29 2 (by decide)) 0).trans (congrFun (f15 2 (by decide)) 0)) ((congrFun (f29 2 (by decide)) 1).trans (congrFun (f15 2 (by decide)) 1)) ((congrFun (f29 2 (by decide)) 2).trans (congrFun (f15 2 (by decide)) 2)) ((congrFun (f29 2 (by decide)) 3).trans (congrFun (f15 2 (by decide)) 3)) ((f29 6 (by decide)).trans (f15 6 (by decide))) hI2
  have I36 : jI9 σ27 := jI9_fr ((congrFun (f29 9 (by decide)) 0).trans (congrFun (f15 9 (by decide)) 0)) ((f29 10 (by decide)).trans (f15 10 (by decide))) ((f29 11 (by decide)).trans (f15 11 (by decide))) hI9
  have I37 : jI12 σ27 := jI12_fr ((congrFun (f29 12 (by decide)) 0).trans (congrFun (f15 12 (by decide)) 0)) ((f29 13 (by decide)).trans (f15 13 (by decide))) hI12
  have I38 : jI16 σ27 := jI16_fr ((congrFun (f29 16 (by decide)) 0).trans (congrFun (f15 16 (by decide)) 0)) ((congrFun (f29 16 (by decide)) 1).trans (congrFun (f15 16 (by decide)) 1)) ((congrFun (f29 16 (by decide)) 2).trans (congrFun (f15 16 (by decide)) 2)) ((f29 17 (by decide)).trans (f15 17 (by decide))) hI16
  have I39 : jI18 σ27 := jI18_fr ((congrFun (f29 18 (by decide)) 0).trans (congrFun (f15 18 (by decide)) 0)) ((f29 19 (by decide)).trans (f15 19 (by decide))) hI18
  have I40 : jI22 σ27 := jI22_fr ((congrFun (f29 22 (by decide)) 0).trans (congrFun (f15 22 (by decide)) 0)) ((f29 23 (by decide)).trans (f15 23 (by decide))) hI22
  have I41 : jI31 σ27 := jI31_fr (congrFun (f29 31 (by decide)) 8) (f29 33 (by decide)) (f29 36 (by decide)) I17
  have I42 : jI38 σ27 := jI38_fr ((congrFun (f29 38 (by decide)) 0).trans (congrFun (f15 38 (by decide)) 0)) ((congrFun (f29 38 (by decide)) 1).trans (congrFun (f15 38 (by decide)) 1)) ((f29 39 (by decide)).trans (f15 39 (by decide))) hI38
  have I43 : jI43 σ27 := jI43_fr ((congrFun (f29 43 (by decide)) 8).trans (congrFun (f15 43 (by decide)) 8)) hI43
  have I44 : jI47 σ27 := jI47_fr ((congrFun (f29 47 (by decide)) 0).trans (congrFun (f15 47 (by decide)) 0)) ((f29 48 (by decide)).trans (f15 48 (by decide))) ((f29 49 (by decide)).trans (f15 49 (by decide))) hI47
  have I45 : jI50 σ27 := jI50_fr ((f29 52 (by decide)).trans (f15 52 (by decide))) hI50
  have I46 : jI101 σ27 := jI101_fr (f30 4 (by decide)) (f30 5 (by decide)) (f29 56 (by decide)) (f29 57 (by decide)) (f29 58 (by decide)) (f29 59 (by decide)) I19
  have I47 : jI102 σ27 := jI102_fr (f30 6 (by decide)) (f29 60 (by decide)) (f29 61 (by decide)) I20
  have I48 : jI103 σ27 := jI103_fr (f30 9 (by decide)) I21
  have I49 : jI104 σ27 := jI104_fr (f30 10 (by decide)) (f30 12 (by decide)) (f30 13 (by decide)) (f29 62 (by decide)) (f29 67 (by decide)) I22
  have I50 : jI105 σ27 := jI105_fr (f30 15 (by decide)) (f29 65 (by decide)) I23
  have I51 : jI106 σ27 := jI106_fr (f30 32 (by decide)) (f29 70 (by decide)) (f29 71 (by decide)) (f29 72 (by decide)) I24
  have I52 : jI107 σ27 := jI107_fr ((f30 12 (by decide)).trans (congrFun (f15 55 (by decide)) 12)) ((f30 47 (by decide)).trans (congrFun (f15 55 (by decide)) 47)) ((f29 80 (by decide)).trans (f15 80 (by decide))) hI107
  have I53 : jI109 σ27 := jI109_fr ((f30 50 (by decide)).trans (congrFun (f15 55 (by decide)) 50)) hI109
  have I54 : jI110 σ27 := jI110_fr ((f29 86 (by decide)).trans (f15 86 (by decide))) ((f29 87 (by decide)).trans (f15 87 (by decide))) hI110
  have I55 : jI111 σ27 := jI111_fr ((f29 79 (by decide)).trans (f15 79 (by decide))) hI111
  have p56 : jBook σ27 := jBook.fr ((f30 47 (by decide)).trans (congrFun (f15 55 (by decide)) 47)) ((f30 10 (by decide)).trans (congrFun (f15 55 (by decide)) 10)) ((f29 81 (by decide)).trans (f15 81 (by decide))) hs_jBook
  have z57 : (σ27 38 0).toInt = (σ 38 0).toInt := (congrArg Int32.toInt (show σ27 38 0 = (σ 38 0) from ((congrFun (f29 38 (by decide)) 0).trans (congrFun (f15 38 (by decide)) 0))))
  have z58 : (σ27 55 32).toInt = (σ 55 32).toInt := (congrArg Int32.toInt (show σ27 55 32 = (σ 55 32) from ((f30 32 (by decide)).trans (congrFun (f15 55 (by decide)) 32))))
  exact ih x34 σ27 τ _ _ ls (by have h9 := tx34; omega) ⟨I35, I36, I37, I38, I39, I40, I41, I42, I43, I44, I45, I46, I47, I48, I49, I50, I51, I52, I53, I54, I55, I31, p32, p56, (by omega), (show jShP (σ27 51) (σ27 52) (σ27 53) (σ27 86) (σ27 87) (σ27 55 32).toInt by rw [show σ27 51 = σ 51 from ((f29 51 (by decide)).trans (f15 51 (by decide))), show σ27 52 = σ 52 from ((f29 52 (by decide)).trans (f15 52 (by decide))), show σ27 53 = σ 53 from ((f29 53 (by decide)).trans (f15 53 (by decide))), show σ27 86 = σ 86 from ((f29 86 (by decide)).trans (f15 86 (by decide))), show σ27 87 = σ 87 from ((f29 87 (by decide)).trans (f15 87 (by decide)))]; exact (hr0.up (by omega) (by omega))), (show jKd (σ27 39) (σ27 70) (σ27 55 32).toInt by rw [show σ27 39 = σ 39 from ((f29 39 (by decide)).trans (f15 39 (by decide))), show σ27 70 = σ 70 from ((f29 70 (by decide)).trans (f15 70 (by decide))), show (σ27 55 32).toInt = (σ 55 32).toInt from by omega]; exact hr1)⟩ hP hS (lv_sub hl [0, 1, 2, 3] rfl)
set_option maxHeartbeats 4000000 in
set_option maxRecDepth 100000 in
theorem law_case_13 {p : Program} {e : Env} {s : State} {m : MethodId} {below : List Frame} {meth : Method} {c : Code} (l : Launch) {b L : Nat} {xs : Nat → Int32} {D : va_G} {cI cL : ClassId} {ad zz : Nat → Nat} (C0 : lw_At p s m meth c b L xs) (hJ : jD ad) (hA : ∀ q, jA ad q → s.heap.size ≤ q) (hK : jK D cI cL s) (hZ : jZ zz (fun q : Nat => s.heap.size ≤ q) s s.heap) {x0 : Int32} (hx0 : 0 ≤ x0.toInt) (hxL : x0.toInt + 6 ≤ (L : Int)) (hL : L ≤ 384) {σ : Nat → Nat → Int32} {τ : Nat → Nat → Int64} {H : Heap} {locs : List Loc} (hS : va_S (fun q : Nat => s.heap.size ≤ q) s.heap H locs) {ls : Array Slot} (hAll : jAll σ τ) (hP : jH D cI cL ad σ τ H) (hl : lv_has ls 4 [(3, .int x0), (2, .ref (ad 55)), (1, .ref (ad 0)), (0, .ref b)]) (ih : ∀ (x1 : Int32) (σ : Nat → Nat → Int32) (τ : Nat → Nat → Int64) (H : Heap) (locs : List Loc) (ls : Array Slot), x1.toInt = x0.toInt + 6 → jAll σ τ → jH D cI cL ad σ τ H → va_S (fun q : Nat => s.heap.size ≤ q) s.heap H locs → lv_has ls 4 [(3, .int x1), (2, .ref (ad 55)), (1, .ref (ad 0)), (0, .ref b)] → W p l e room_1 s m #[Value.ref b] below meth c H locs 90 348600 (lw_Z below #[Value.ref b] s) (F0 m 18 ls [])) : W p l e room_1 s m #[Value.ref b] below meth c H locs 90 348600 (lw_Z below #[Value.ref b] s) (F0 m 605 ls []) := by
  obtain ⟨hx, hb, hr, hml, hown, hts0, hX, hbl, hlocks, hgv⟩ := C0
  have hts : ∀ w ∈ wsL_law, w.before #[Value.ref b] s = true := fun w h => hts0 w (wsL_law_in w h)
  have hbA : ¬ (fun q : Nat => s.heap.size ≤ q) b := Nat.not_le.mpr hbl
  have hown : s.vm.findClass RL = some m.cls := hown
  obtain ⟨hI2, hI9, hI12, hI16, hI18, hI22, hI31, hI38, hI43, hI47, hI50, hI101, hI102, hI103, hI104, hI105, hI106, hI107, hI109, hI110, hI111, hI119, hs_jKept, hs_jBook, ht0, hr0, hr1⟩ := hAll
  have hL9 : (L : Int) ≤ 384 := by omega
  obtain ⟨i1, i2, w3⟩ : (0 ≤ (σ 38 0).toInt ∧ (σ 38 0).toInt ≤ 20) ∧ (0 ≤ (σ 38 1).toInt ∧ (σ 38 1).toInt ≤ 1000) ∧ (∀ k : Nat, k < 20 → 0 ≤ (σ 39 k).toInt ∧ (σ 39 k).toInt ≤ 6) := id hI38
  obtain ⟨i4, w5, w6, w7⟩ : (0 ≤ (σ 55 32).toInt ∧ (σ 55 32).toInt ≤ 20) ∧ (∀ k : Nat, k < 20 → 0 ≤ (σ 70 k).toInt ∧ (σ 70 k).toInt ≤ 6) ∧ (∀ k : Nat, k < 20 → 0 ≤ (σ 71 k).toInt ∧ (σ 71 k).toInt ≤ 8) ∧ (∀ k : Nat, k < 160 → 0 ≤ (σ 72 k).toInt ∧ (σ 72 k).toInt ≤ 3) := id hI106
  refine lv_aload_n hx hb dL_law_605 rfl (lv_at hl 2 rfl) ?_
  refine lv_aload_n hx hb dL_law_606 rfl (lv_at hl 3 rfl) ?_
  refine lv_iload_n hx hb dL_law_607 rfl (lv_at hl 0 rfl) ?_
  refine lv_iconst (v := 1) hx hb dL_law_608 (by decide) ?_
  have g8 := jrg (rfl : x0.toInt = x0.toInt)
  refine lv_iadd hx hb dL_law_609 ?_
  refine lv_topi (fun x9 ex9 => ?_)
  have tx9 : x9.toInt = x0.toInt + 1 := (jadd ex9 rfl jz_1 (by omega) (by omega)).trans (by omega)
  refine va_sld hx hb hX hbl hbA hS (jin tx9 (by omega) (by omega)) dL_law_610 ?_
  have g10 := jrg (rfl : (xs x9.toNatClampNeg).toInt = (xs x9.toNatClampNeg).toInt)
  refine jcallV (As := [.int (xs x9.toNatClampNeg)]) (rest := []) ⟨hx, hb, hml, hown, hts⟩ hK hP hA hS hZ (c_X11_best l D cI cL ad zz hJ σ τ (xs x9.toNatClampNeg) ((xs x9.toNatClampNeg).toInt) rfl hI2 hI16 hI22 hI31 hI47) cw_RL_69 (jc_0 cI cL ad σ τ) rfl ⟨Nat.le_of_ble_eq_true rfl, Nat.le_of_ble_eq_true rfl⟩ rfl rfl rfl hl.1 rfl (Nat.le_of_ble_eq_true rfl) dL_law_611 ⟨Nat.le_of_ble_eq_true rfl, Nat.le_of_ble_eq_true rfl⟩ (fun r12 σ11 τ11 H locs h11 hP hS => ?_)
  obtain ⟨rfl, f13, f14, I15, h11⟩ := h11
  refine lv_pop hx hb dL_law_614 rfl ?_
  refine lv_aload_n hx hb dL_law_615 rfl (lv_at hl 1 rfl) ?_
  refine lv_aload_n hx hb dL_law_616 rfl (lv_at hl 3 rfl) ?_
  refine lv_iload_n hx hb dL_law_617 rfl (lv_at hl 0 rfl) ?_
  refine lv_iconst (v := 1) hx hb dL_law_618 (by decide) ?_
  refine lv_iadd hx hb dL_law_619 ?_
  refine jtopr ex9.symm ?_
  refine va_sld hx hb hX hbl hbA hS (jin tx9 (by omega) (by omega)) dL_law_620 ?_
  have I17 : jI101 σ11 := jI101_fr (congrFun (f13 55 (by decide)) 4) (congrFun (f13 55 (by decide)) 5) (f13 56 (by decide)) (f13 57 (by decide)) (f13 58 (by decide)) (f13 59 (by decide)) hI101
  have I18 : jI102 σ11 := jI102_fr (congrFun (f13 55 (by decide)) 6) (f13 60 (by decide)) (f13 61 (by decide)) hI102
  have I19 : jI103 σ11 := jI103_fr (congrFun (f13 55 (by decide)) 9) hI103
  have I20 : jI104 σ11 := jI104_fr (congrFun (f13 55 (by decide)) 10) (congrFun (f13 55 (by decide)) 12) (congrFun (f13 55 (by decide)) 13) (f13 62 (by decide)) (f13 67 (by decide)) hI104
  have I21 : jI105 σ11 := jI105_fr (congrFun (f13 55 (by decide)) 15) (f13 65 (by decide)) hI105
  have I22 : jI106 σ11 := jI106_fr (congrFun (f13 55 (by decide)) 32) (f13 70 (by decide)) (f13 71 (by decide)) (f13 72 (by decide)) hI106
  have I23 : jI107 σ11 := jI107_fr (congrFun (f13 55 (by decide)) 12) (congrFun (f13 55 (by decide)) 47) (f13 80 (by decide)) hI107
  have I24 : jI119 σ11 := jI119_fr (f13 68 (by decide)) hI119
  have p25 : jKept σ11 := jKept.fr (f13 75 (by decide)) (f13 76 (by decide)) (f13 77 (by decide)) hs_jKept
  have p26 : jBook σ11 := jBook.fr (congrFun (f13 55 (by decide)) 47) (congrFun (f13 55 (by decide)) 10) (f13 81 (by decide)) hs_jBook
  refine jcallV (As := [.int (xs x9.toNatClampNeg)]) (rest := []) ⟨hx, hb, hml, hown, hts⟩ hK hP hA hS hZ (c_X12_best l D cI cL ad zz hJ σ11 τ (xs x9.toNatClampNeg) ((xs x9.toNatClampNeg).toInt) rfl I17 I18 I19 I20 I21 I22 I23 I24 p25 p26) cw_RL_72 (jc_55 cI cL ad σ11 τ) rfl ⟨Nat.le_of_ble_eq_true rfl, Nat.le_of_ble_eq_true rfl⟩ rfl rfl rfl hl.1 rfl (Nat.le_of_ble_eq_true rfl) dL_law_621 ⟨Nat.le_of_ble_eq_true rfl, Nat.le_of_ble_eq_true rfl⟩ (fun r28 σ27 τ27 H locs h27 hP hS => ?_)
  obtain ⟨rfl, f29, f30, I31, p32, p33, h27⟩ := h27
  refine lv_pop hx hb dL_law_624 rfl ?_
  refine lv_goto (tgt := 1357) hx hb dL_law_625 (by decide) ?_
  obtain ⟨x35, ex35⟩ : ∃ y : Int32, y = x0 + 6 := ⟨_, rfl⟩
  have tx35 : x35.toInt = x0.toInt + 6 := (jadd ex35 rfl jz_6 (by omega) (by omega)).trans (by omega)
  refine lv_iinc (v := x35) (lv' := [(3, .int x35), (2, .ref (ad 55)), (1, .ref (ad 0)), (0, .ref b)]) hx hb dL_law_1357 hl (k := 0) rfl (by rw [ex35]; rfl) (by decide) rfl (fun ls hl => ?_)
  refine lv_goto (tgt := 18) hx hb dL_law_1360 (by decide) ?_
  have I36 : jI2 σ27 := jI2_fr ((congrFun (f29 2 (by decide)) 0).trans (congrFun (f13 2 (by decide)) 0)) ((congrFun (f29 2 (by decide)) 1).trans (congrFun (f13 2 (by decide)) 1)) ((congrFun (f29 2 (by decide)) 2).trans (congrFun (f13 2 (by decide)) 2)) ((congrFun (f29 2 (by decide)) 3).trans (congrFun (f13 2 (by decide)) 3)) ((f29 6 (by decide)).trans (f13 6 (by decide))) hI2
  have I37 : jI9 σ27 := jI9_fr ((congrFun (f29 9 (by decide)) 0).trans (congrFun (f13 9 (by decide)) 0)) ((f29 10 (by decide)).trans (f13 10 (by decide))) ((f29 11 (by decide)).trans (f13 11 (by decide))) hI9
  have I38 : jI12 σ27 := jI12_fr ((congrFun (f29 12 (by decide)) 0).trans (congrFun (f13 12 (by decide)) 0)) ((f29 13 (by decide)).trans (f13 13 (by decide))) hI12
  have I39 : jI16 σ27 := jI16_fr ((congrFun (f29 16 (by decide)) 0).trans (congrFun (f13 16 (by decide)) 0)) ((congrFun (f29 16 (by decide)) 1).trans (congrFun (f13 16 (by decide)) 1)) ((congrFun (f29 16 (by decide)) 2).trans (congrFun (f13 16 (by decide)) 2)) ((f29 17 (by decide)).trans (f13 17 (by decide))) hI16
  have I40 : jI18 σ27 := jI18_fr ((congrFun (f29 18 (by decide)) 0).trans (congrFun (f13 18 (by decide)) 0)) ((f29 19 (by decide)).trans (f13 19 (by decide))) hI18
  have I41 : jI22 σ27 := jI22_fr ((congrFun (f29 22 (by decide)) 0).trans (congrFun (f13 22 (by decide)) 0)) ((f29 23 (by decide)).trans (f13 23 (by decide))) hI22
  have I42 : jI31 σ27 := jI31_fr (congrFun (f29 31 (by decide)) 8) (f29 33 (by decide)) (f29 36 (by decide)) I15
  have I43 : jI38 σ27 := jI38_fr ((congrFun (f29 38 (by decide)) 0).trans (congrFun (f13 38 (by decide)) 0)) ((congrFun (f29 38 (by decide)) 1).trans (congrFun (f13 38 (by decide)) 1)) ((f29 39 (by decide)).trans (f13 39 (by decide))) hI38
  have I44 : jI43 σ27 := jI43_fr ((congrFun (f29 43 (by decide)) 8).trans (congrFun (f13 43 (by decide)) 8)) hI43
  have I45 : jI47 σ27 := jI47_fr ((congrFun (f29 47 (by decide)) 0).trans (congrFun (f13 47 (by decide)) 0)) ((f29 48 (by decide)).trans (f13 48 (by decide))) ((f29 49 (by decide)).trans (f13 49 (by decide))) hI47
  have I46 : jI50 σ27 := jI50_fr ((f29 52 (by decide)).trans (f13 52 (by decide))) hI50
  have I47 : jI101 σ27 := jI101_fr (f30 4 (by decide)) (f30 5 (by decide)) (f29 56 (by decide)) (f29 57 (by decide)) (f29 58 (by decide)) (f29 59 (by decide)) I17
  have I48 : jI102 σ27 := jI102_fr (f30 6 (by decide)) (f29 60 (by decide)) (f29 61 (by decide)) I18
  have I49 : jI103 σ27 := jI103_fr (f30 9 (by decide)) I19
  have I50 : jI104 σ27 := jI104_fr (f30 10 (by decide)) (f30 12 (by decide)) (f30 13 (by decide)) (f29 62 (by decide)) (f29 67 (by decide)) I20
  have I51 : jI105 σ27 := jI105_fr (f30 15 (by decide)) (f29 65 (by decide)) I21
  have I52 : jI106 σ27 := jI106_fr (f30 32 (by decide)) (f29 70 (by decide)) (f29 71 (by decide)) (f29 72 (by decide)) I22
  have I53 : jI107 σ27 := jI107_fr (f30 12 (by decide)) (f30 47 (by decide)) (f29 80 (by decide)) I23
  have I54 : jI109 σ27 := jI109_fr ((f30 50 (by decide)).trans (congrFun (f13 55 (by decide)) 50)) hI109
  have I55 : jI110 σ27 := jI110_fr ((f29 86 (by decide)).trans (f13 86 (by decide))) ((f29 87 (by decide)).trans (f13 87 (by decide))) hI110
  have I56 : jI111 σ27 := jI111_fr ((f29 79 (by decide)).trans (f13 79 (by decide))) hI111
  have z57 : (σ27 38 0).toInt = (σ 38 0).toInt := (congrArg Int32.toInt (show σ27 38 0 = (σ 38 0) from ((congrFun (f29 38 (by decide)) 0).trans (congrFun (f13 38 (by decide)) 0))))
  have z58 : (σ27 55 32).toInt = (σ 55 32).toInt := (congrArg Int32.toInt (show σ27 55 32 = (σ 55 32) from ((f30 32 (by decide)).trans (congrFun (f13 55 (by decide)) 32))))
  exact ih x35 σ27 τ _ _ ls (by have h9 := tx35; omega) ⟨I36, I37, I38, I39, I40, I41, I42, I43, I44, I45, I46, I47, I48, I49, I50, I51, I52, I53, I54, I55, I56, I31, p32, p33, (by omega), (show jShP (σ27 51) (σ27 52) (σ27 53) (σ27 86) (σ27 87) (σ27 55 32).toInt by rw [show σ27 51 = σ 51 from ((f29 51 (by decide)).trans (f13 51 (by decide))), show σ27 52 = σ 52 from ((f29 52 (by decide)).trans (f13 52 (by decide))), show σ27 53 = σ 53 from ((f29 53 (by decide)).trans (f13 53 (by decide))), show σ27 86 = σ 86 from ((f29 86 (by decide)).trans (f13 86 (by decide))), show σ27 87 = σ 87 from ((f29 87 (by decide)).trans (f13 87 (by decide)))]; exact (hr0.up (by omega) (by omega))), (show jKd (σ27 39) (σ27 70) (σ27 55 32).toInt by rw [show σ27 39 = σ 39 from ((f29 39 (by decide)).trans (f13 39 (by decide))), show σ27 70 = σ 70 from ((f29 70 (by decide)).trans (f13 70 (by decide))), show (σ27 55 32).toInt = (σ 55 32).toInt from by omega]; exact hr1)⟩ hP hS (lv_sub hl [0, 1, 2, 3] rfl)
set_option maxHeartbeats 4000000 in
set_option maxRecDepth 100000 in
theorem law_case_14 {p : Program} {e : Env} {s : State} {m : MethodId} {below : List Frame} {meth : Method} {c : Code} (l : Launch) {b L : Nat} {xs : Nat → Int32} {D : va_G} {cI cL : ClassId} {ad zz : Nat → Nat} (C0 : lw_At p s m meth c b L xs) (hJ : jD ad) (hA : ∀ q, jA ad q → s.heap.size ≤ q) (hK : jK D cI cL s) (hZ : jZ zz (fun q : Nat => s.heap.size ≤ q) s s.heap) {x0 : Int32} (hx0 : 0 ≤ x0.toInt) (hxL : x0.toInt + 6 ≤ (L : Int)) (hL : L ≤ 384) {σ : Nat → Nat → Int32} {τ : Nat → Nat → Int64} {H : Heap} {locs : List Loc} (hS : va_S (fun q : Nat => s.heap.size ≤ q) s.heap H locs) {ls : Array Slot} (hAll : jAll σ τ) (hP : jH D cI cL ad σ τ H) (hl : lv_has ls 4 [(3, .int x0), (2, .ref (ad 55)), (1, .ref (ad 0)), (0, .ref b)]) (ih : ∀ (x1 : Int32) (σ : Nat → Nat → Int32) (τ : Nat → Nat → Int64) (H : Heap) (locs : List Loc) (ls : Array Slot), x1.toInt = x0.toInt + 6 → jAll σ τ → jH D cI cL ad σ τ H → va_S (fun q : Nat => s.heap.size ≤ q) s.heap H locs → lv_has ls 4 [(3, .int x1), (2, .ref (ad 55)), (1, .ref (ad 0)), (0, .ref b)] → W p l e room_1 s m #[Value.ref b] below meth c H locs 90 348600 (lw_Z below #[Value.ref b] s) (F0 m 18 ls [])) : W p l e room_1 s m #[Value.ref b] below meth c H locs 90 348600 (lw_Z below #[Value.ref b] s) (F0 m 628 ls []) := by
  obtain ⟨hx, hb, hr, hml, hown, hts0, hX, hbl, hlocks, hgv⟩ := C0
  have hts : ∀ w ∈ wsL_law, w.before #[Value.ref b] s = true := fun w h => hts0 w (wsL_law_in w h)
  have hbA : ¬ (fun q : Nat => s.heap.size ≤ q) b := Nat.not_le.mpr hbl
  have hown : s.vm.findClass RL = some m.cls := hown
  obtain ⟨hI2, hI9, hI12, hI16, hI18, hI22, hI31, hI38, hI43, hI47, hI50, hI101, hI102, hI103, hI104, hI105, hI106, hI107, hI109, hI110, hI111, hI119, hs_jKept, hs_jBook, ht0, hr0, hr1⟩ := hAll
  have hL9 : (L : Int) ≤ 384 := by omega
  obtain ⟨i1, i2, w3⟩ : (0 ≤ (σ 38 0).toInt ∧ (σ 38 0).toInt ≤ 20) ∧ (0 ≤ (σ 38 1).toInt ∧ (σ 38 1).toInt ≤ 1000) ∧ (∀ k : Nat, k < 20 → 0 ≤ (σ 39 k).toInt ∧ (σ 39 k).toInt ≤ 6) := id hI38
  obtain ⟨i4, w5, w6, w7⟩ : (0 ≤ (σ 55 32).toInt ∧ (σ 55 32).toInt ≤ 20) ∧ (∀ k : Nat, k < 20 → 0 ≤ (σ 70 k).toInt ∧ (σ 70 k).toInt ≤ 6) ∧ (∀ k : Nat, k < 20 → 0 ≤ (σ 71 k).toInt ∧ (σ 71 k).toInt ≤ 8) ∧ (∀ k : Nat, k < 160 → 0 ≤ (σ 72 k).toInt ∧ (σ 72 k).toInt ≤ 3) := id hI106
  refine lv_aload_n hx hb dL_law_628 rfl (lv_at hl 2 rfl) ?_
  refine lv_aload_n hx hb dL_law_629 rfl (lv_at hl 3 rfl) ?_
  refine lv_iload_n hx hb dL_law_630 rfl (lv_at hl 0 rfl) ?_
  refine lv_iconst (v := 1) hx hb dL_law_631 (by decide) ?_
  have g8 := jrg (rfl : x0.toInt = x0.toInt)
  refine lv_iadd hx hb dL_law_632 ?_
  refine lv_topi (fun x9 ex9 => ?_)
  have tx9 : x9.toInt = x0.toInt + 1 := (jadd ex9 rfl jz_1 (by omega) (by omega)).trans (by omega)
  refine va_sld hx hb hX hbl hbA hS (jin tx9 (by omega) (by omega)) dL_law_633 ?_
  have g10 := jrg (rfl : (xs x9.toNatClampNeg).toInt = (xs x9.toNatClampNeg).toInt)
  refine lv_aload_n hx hb dL_law_634 rfl (lv_at hl 3 rfl) ?_
  refine lv_iload_n hx hb dL_law_635 rfl (lv_at hl 0 rfl) ?_
  refine lv_iconst (v := 2) hx hb dL_law_636 (by decide) ?_
  refine lv_iadd hx hb dL_law_637 ?_
  refine lv_topi (fun x11 ex11 => ?_)
  have tx11 : x11.toInt = x0.toInt + 2 := (jadd ex11 rfl jz_2 (by omega) (by omega)).trans (by omega)
  refine va_sld hx hb hX hbl hbA hS (jin tx11 (by omega) (by omega)) dL_law_638 ?_
  have g12 := jrg (rfl : (xs x11.toNatClampNeg).toInt = (xs x11.toNatClampNeg).toInt)
  refine jcallV (As := [.int (xs x9.toNatClampNeg), .int (xs x11.toNatClampNeg)]) (rest := []) ⟨hx, hb, hml, hown, hts⟩ hK hP hA hS hZ (c_X11_worth l D cI cL ad zz hJ σ τ (xs x9.toNatClampNeg) ((xs x9.toNatClampNeg).toInt) rfl (xs x11.toNatClampNeg) ((xs x11.toNatClampNeg).toInt) rfl hI2 hI16 hI22 hI31) cw_RL_73 (jc_0 cI cL ad σ τ) rfl ⟨Nat.le_of_ble_eq_true rfl, Nat.le_of_ble_eq_true rfl⟩ rfl rfl rfl hl.1 rfl (Nat.le_of_ble_eq_true rfl) dL_law_639 ⟨Nat.le_of_ble_eq_true rfl, Nat.le_of_ble_eq_true rfl⟩ (fun r14 σ13 τ13 H locs h13 hP hS => ?_)
  obtain ⟨rfl, f15, f16, I17, h13⟩ := h13
  refine lv_pop hx hb dL_law_642 rfl ?_
  refine lv_aload_n hx hb dL_law_643 rfl (lv_at hl 1 rfl) ?_
  refine lv_aload_n hx hb dL_law_644 rfl (lv_at hl 3 rfl) ?_
  refine lv_iload_n hx hb dL_law_645 rfl (lv_at hl 0 rfl) ?_
  refine lv_iconst (v := 1) hx hb dL_law_646 (by decide) ?_
  refine lv_iadd hx hb dL_law_647 ?_
  refine jtopr ex9.symm ?_
  refine va_sld hx hb hX hbl hbA hS (jin tx9 (by omega) (by omega)) dL_law_648 ?_
  refine lv_aload_n hx hb dL_law_649 rfl (lv_at hl 3 rfl) ?_
  refine lv_iload_n hx hb dL_law_650 rfl (lv_at hl 0 rfl) ?_
  refine lv_iconst (v := 2) hx hb dL_law_651 (by decide) ?_
  refine lv_iadd hx hb dL_law_652 ?_
  refine jtopr ex11.symm ?_
  refine va_sld hx hb hX hbl hbA hS (jin tx11 (by omega) (by omega)) dL_law_653 ?_
  have I19 : jI101 σ13 := jI101_fr (congrFun (f15 55 (by decide)) 4) (congrFun (f15 55 (by decide)) 5) (f15 56 (by decide)) (f15 57 (by decide)) (f15 58 (by decide)) (f15 59 (by decide)) hI101
  have I20 : jI102 σ13 := jI102_fr (congrFun (f15 55 (by decide)) 6) (f15 60 (by decide)) (f15 61 (by decide)) hI102
  have I21 : jI103 σ13 := jI103_fr (congrFun (f15 55 (by decide)) 9) hI103
  have I22 : jI104 σ13 := jI104_fr (congrFun (f15 55 (by decide)) 10) (congrFun (f15 55 (by decide)) 12) (congrFun (f15 55 (by decide)) 13) (f15 62 (by decide)) (f15 67 (by decide)) hI104
  have I23 : jI105 σ13 := jI105_fr (congrFun (f15 55 (by decide)) 15) (f15 65 (by decide)) hI105
  have I24 : jI106 σ13 := jI106_fr (congrFun (f15 55 (by decide)) 32) (f15 70 (by decide)) (f15 71 (by decide)) (f15 72 (by decide)) hI106
  have I25 : jI119 σ13 := jI119_fr (f15 68 (by decide)) hI119
  have p26 : jKept σ13 := jKept.fr (f15 75 (by decide)) (f15 76 (by decide)) (f15 77 (by decide)) hs_jKept
  have z27 : (σ13 55 30).toInt = (σ 55 30).toInt := (congrArg Int32.toInt (show σ13 55 30 = (σ 55 30) from (congrFun (f15 55 (by decide)) 30)))
  have z28 : (σ13 55 31).toInt = (σ 55 31).toInt := (congrArg Int32.toInt (show σ13 55 31 = (σ 55 31) from (congrFun (f15 55 (by decide)) 31)))
  refine jcallV (As := [.int (xs x9.toNatClampNeg), .int (xs x11.toNatClampNeg)]) (rest := []) ⟨hx, hb, hml, hown, hts⟩ hK hP hA hS hZ (c_X12_worth l D cI cL ad zz hJ σ13 τ (xs x9.toNatClampNeg) ((xs x9.toNatClampNeg).toInt) rfl (xs x11.toNatClampNeg) ((xs x11.toNatClampNeg).toInt) rfl I19 I20 I21 I22 I23 I24 I25 p26) cw_RL_76 (jc_55 cI cL ad σ13 τ) rfl ⟨Nat.le_of_ble_eq_true rfl, Nat.le_of_ble_eq_true rfl⟩ rfl rfl rfl hl.1 rfl (Nat.le_of_ble_eq_true rfl) dL_law_654 ⟨Nat.le_of_ble_eq_true rfl, Nat.le_of_ble_eq_true rfl⟩ (fun r30 σ29 τ29 H locs h29 hP hS => ?_)
  obtain ⟨rfl, f31, f32, I33, p34, h29⟩ := h29
  obtain ⟨k36, h29⟩ := h29
  refine lv_pop hx hb dL_law_657 rfl ?_
  refine lv_goto (tgt := 1357) hx hb dL_law_658 (by decide) ?_
  obtain ⟨x37, ex37⟩ : ∃ y : Int32, y = x0 + 6 := ⟨_, rfl⟩
  have tx37 : x37.toInt = x0.toInt + 6 := (jadd ex37 rfl jz_6 (by omega) (by omega)).trans (by omega)
  refine lv_iinc (v := x37) (lv' := [(3, .int x37), (2, .ref (ad 55)), (1, .ref (ad 0)), (0, .ref b)]) hx hb dL_law_1357 hl (k := 0) rfl (by rw [ex37]; rfl) (by decide) rfl (fun ls hl => ?_)
  refine lv_goto (tgt := 18) hx hb dL_law_1360 (by decide) ?_
  have I38 : jI2 σ29 := jI2_fr ((congrFun (f31 2 (by decide)) 0).trans (congrFun (f15 2 (by decide)) 0)) ((congrFun (f31 2 (by decide)) 1).trans (congrFun (f15 2 (by decide)) 1)) ((congrFun (f31 2 (by decide)) 2).trans (congrFun (f15 2 (by decide)) 2)) ((congrFun (f31 2 (by decide)) 3).trans (congrFun (f15 2 (by decide)) 3)) ((f31 6 (by decide)).trans (f15 6 (by decide))) hI2
  have I39 : jI9 σ29 := jI9_fr ((congrFun (f31 9 (by decide)) 0).trans (congrFun (f15 9 (by decide)) 0)) ((f31 10 (by decide)).trans (f15 10 (by decide))) ((f31 11 (by decide)).trans (f15 11 (by decide))) hI9
  have I40 : jI12 σ29 := jI12_fr ((congrFun (f31 12 (by decide)) 0).trans (congrFun (f15 12 (by decide)) 0)) ((f31 13 (by decide)).trans (f15 13 (by decide))) hI12
  have I41 : jI16 σ29 := jI16_fr ((congrFun (f31 16 (by decide)) 0).trans (congrFun (f15 16 (by decide)) 0)) ((congrFun (f31 16 (by decide)) 1).trans (congrFun (f15 16 (by decide)) 1)) ((congrFun (f31 16 (by decide)) 2).trans (congrFun (f15 16 (by decide)) 2)) ((f31 17 (by decide)).trans (f15 17 (by decide))) hI16
  have I42 : jI18 σ29 := jI18_fr ((congrFun (f31 18 (by decide)) 0).trans (congrFun (f15 18 (by decide)) 0)) ((f31 19 (by decide)).trans (f15 19 (by decide))) hI18
  have I43 : jI22 σ29 := jI22_fr ((congrFun (f31 22 (by decide)) 0).trans (congrFun (f15 22 (by decide)) 0)) ((f31 23 (by decide)).trans (f15 23 (by decide))) hI22
  have I44 : jI31 σ29 := jI31_fr (congrFun (f31 31 (by decide)) 8) (f31 33 (by decide)) (f31 36 (by decide)) I17
  have I45 : jI38 σ29 := jI38_fr ((congrFun (f31 38 (by decide)) 0).trans (congrFun (f15 38 (by decide)) 0)) ((congrFun (f31 38 (by decide)) 1).trans (congrFun (f15 38 (by decide)) 1)) ((f31 39 (by decide)).trans (f15 39 (by decide))) hI38
  have I46 : jI43 σ29 := jI43_fr ((congrFun (f31 43 (by decide)) 8).trans (congrFun (f15 43 (by decide)) 8)) hI43
  have I47 : jI47 σ29 := jI47_fr ((congrFun (f31 47 (by decide)) 0).trans (congrFun (f15 47 (by decide)) 0)) ((f31 48 (by decide)).trans (f15 48 (by decide))) ((f31 49 (by decide)).trans (f15 49 (by decide))) hI47
  have I48 : jI50 σ29 := jI50_fr ((f31 52 (by decide)).trans (f15 52 (by decide))) hI50
  have I49 : jI101 σ29 := jI101_fr (f32 4 (by decide)) (f32 5 (by decide)) (f31 56 (by decide)) (f31 57 (by decide)) (f31 58 (by decide)) (f31 59 (by decide)) I19
  have I50 : jI102 σ29 := jI102_fr (f32 6 (by decide)) (f31 60 (by decide)) (f31 61 (by decide)) I20
  have I51 : jI103 σ29 := jI103_fr (f32 9 (by decide)) I21
  have I52 : jI104 σ29 := jI104_fr (f32 10 (by decide)) (f32 12 (by decide)) (f32 13 (by decide)) (f31 62 (by decide)) (f31 67 (by decide)) I22
  have I53 : jI105 σ29 := jI105_fr (f32 15 (by decide)) (f31 65 (by decide)) I23
  have I54 : jI106 σ29 := jI106_fr (f32 32 (by decide)) (f31 70 (by decide)) (f31 71 (by decide)) (f31 72 (by decide)) I24
  have I55 : jI107 σ29 := jI107_fr ((f32 12 (by decide)).trans (congrFun (f15 55 (by decide)) 12)) ((f32 47 (by decide)).trans (congrFun (f15 55 (by decide)) 47)) ((f31 80 (by decide)).trans (f15 80 (by decide))) hI107
  have I56 : jI109 σ29 := jI109_fr ((f32 50 (by decide)).trans (congrFun (f15 55 (by decide)) 50)) hI109
  have I57 : jI110 σ29 := jI110_fr ((f31 86 (by decide)).trans (f15 86 (by decide))) ((f31 87 (by decide)).trans (f15 87 (by decide))) hI110
  have I58 : jI111 σ29 := jI111_fr ((f31 79 (by decide)).trans (f15 79 (by decide))) hI111
  have p59 : jBook σ29 := jBook.fr ((f32 47 (by decide)).trans (congrFun (f15 55 (by decide)) 47)) ((f32 10 (by decide)).trans (congrFun (f15 55 (by decide)) 10)) ((f31 81 (by decide)).trans (f15 81 (by decide))) hs_jBook
  have z60 : (σ29 38 0).toInt = (σ 38 0).toInt := (congrArg Int32.toInt (show σ29 38 0 = (σ 38 0) from ((congrFun (f31 38 (by decide)) 0).trans (congrFun (f15 38 (by decide)) 0))))
  have z61 : (σ29 55 32).toInt = (σ 55 32).toInt := (congrArg Int32.toInt (show σ29 55 32 = (σ 55 32) from ((f32 32 (by decide)).trans (congrFun (f15 55 (by decide)) 32))))
  exact ih x37 σ29 τ _ _ ls (by have h9 := tx37; omega) ⟨I38, I39, I40, I41, I42, I43, I44, I45, I46, I47, I48, I49, I50, I51, I52, I53, I54, I55, I56, I57, I58, I33, p34, p59, (by omega), (show jShP (σ29 51) (σ29 52) (σ29 53) (σ29 86) (σ29 87) (σ29 55 32).toInt by rw [show σ29 51 = σ 51 from ((f31 51 (by decide)).trans (f15 51 (by decide))), show σ29 52 = σ 52 from ((f31 52 (by decide)).trans (f15 52 (by decide))), show σ29 53 = σ 53 from ((f31 53 (by decide)).trans (f15 53 (by decide))), show σ29 86 = σ 86 from ((f31 86 (by decide)).trans (f15 86 (by decide))), show σ29 87 = σ 87 from ((f31 87 (by decide)).trans (f15 87 (by decide)))]; exact (hr0.up (by omega) (by omega))), (show jKd (σ29 39) (σ29 70) (σ29 55 32).toInt by rw [show σ29 39 = σ 39 from ((f31 39 (by decide)).trans (f15 39 (by decide))), show σ29 70 = σ 70 from ((f31 70 (by decide)).trans (f15 70 (by decide))), show (σ29 55 32).toInt = (σ 55 32).toInt from by omega]; exact hr1)⟩ hP hS (lv_sub hl [0, 1, 2, 3] rfl)
set_option maxHeartbeats 4000000 in
set_option maxRecDepth 100000 in
theorem law_case_15 {p : Program} {e : Env} {s : State} {m : MethodId} {below : List Frame} {meth : Method} {c : Code} (l : Launch) {b L : Nat} {xs : Nat → Int32} {D : va_G} {cI cL : ClassId} {ad zz : Nat → Nat} (C0 : lw_At p s m meth c b L xs) (hJ : jD ad) (hA : ∀ q, jA ad q → s.heap.size ≤ q) (hK : jK D cI cL s) (hZ : jZ zz (fun q : Nat => s.heap.size ≤ q) s s.heap) {x0 : Int32} (hx0 : 0 ≤ x0.toInt) (hxL : x0.toInt + 6 ≤ (L : Int)) (hL : L ≤ 384) {σ : Nat → Nat → Int32} {τ : Nat → Nat → Int64} {H : Heap} {locs : List Loc} (hS : va_S (fun q : Nat => s.heap.size ≤ q) s.heap H locs) {ls : Array Slot} (hAll : jAll σ τ) (hP : jH D cI cL ad σ τ H) (hl : lv_has ls 4 [(3, .int x0), (2, .ref (ad 55)), (1, .ref (ad 0)), (0, .ref b)]) (ih : ∀ (x1 : Int32) (σ : Nat → Nat → Int32) (τ : Nat → Nat → Int64) (H : Heap) (locs : List Loc) (ls : Array Slot), x1.toInt = x0.toInt + 6 → jAll σ τ → jH D cI cL ad σ τ H → va_S (fun q : Nat => s.heap.size ≤ q) s.heap H locs → lv_has ls 4 [(3, .int x1), (2, .ref (ad 55)), (1, .ref (ad 0)), (0, .ref b)] → W p l e room_1 s m #[Value.ref b] below meth c H locs 90 348600 (lw_Z below #[Value.ref b] s) (F0 m 18 ls [])) : W p l e room_1 s m #[Value.ref b] below meth c H locs 90 348600 (lw_Z below #[Value.ref b] s) (F0 m 661 ls []) := by
  obtain ⟨hx, hb, hr, hml, hown, hts0, hX, hbl, hlocks, hgv⟩ := C0
  have hts : ∀ w ∈ wsL_law, w.before #[Value.ref b] s = true := fun w h => hts0 w (wsL_law_in w h)
  have hbA : ¬ (fun q : Nat => s.heap.size ≤ q) b := Nat.not_le.mpr hbl
  have hown : s.vm.findClass RL = some m.cls := hown
  obtain ⟨hI2, hI9, hI12, hI16, hI18, hI22, hI31, hI38, hI43, hI47, hI50, hI101, hI102, hI103, hI104, hI105, hI106, hI107, hI109, hI110, hI111, hI119, hs_jKept, hs_jBook, ht0, hr0, hr1⟩ := hAll
  have hL9 : (L : Int) ≤ 384 := by omega
  obtain ⟨i1, i2, w3⟩ : (0 ≤ (σ 38 0).toInt ∧ (σ 38 0).toInt ≤ 20) ∧ (0 ≤ (σ 38 1).toInt ∧ (σ 38 1).toInt ≤ 1000) ∧ (∀ k : Nat, k < 20 → 0 ≤ (σ 39 k).toInt ∧ (σ 39 k).toInt ≤ 6) := id hI38
  obtain ⟨i4, w5, w6, w7⟩ : (0 ≤ (σ 55 32).toInt ∧ (σ 55 32).toInt ≤ 20) ∧ (∀ k : Nat, k < 20 → 0 ≤ (σ 70 k).toInt ∧ (σ 70 k).toInt ≤ 6) ∧ (∀ k : Nat, k < 20 → 0 ≤ (σ 71 k).toInt ∧ (σ 71 k).toInt ≤ 8) ∧ (∀ k : Nat, k < 160 → 0 ≤ (σ 72 k).toInt ∧ (σ 72 k).toInt ≤ 3) := id hI106
  refine lv_aload_n hx hb dL_law_661 rfl (lv_at hl 2 rfl) ?_
  refine lv_aload_n hx hb dL_law_662 rfl (lv_at hl 3 rfl) ?_
  refine lv_iload_n hx hb dL_law_663 rfl (lv_at hl 0 rfl) ?_
  refine lv_iconst (v := 1) hx hb dL_law_664 (by decide) ?_
  have g8 := jrg (rfl : x0.toInt = x0.toInt)
  refine lv_iadd hx hb dL_law_665 ?_
  refine lv_topi (fun x9 ex9 => ?_)
  have tx9 : x9.toInt = x0.toInt + 1 := (jadd ex9 rfl jz_1 (by omega) (by omega)).trans (by omega)
  refine va_sld hx hb hX hbl hbA hS (jin tx9 (by omega) (by omega)) dL_law_666 ?_
  have g10 := jrg (rfl : (xs x9.toNatClampNeg).toInt = (xs x9.toNatClampNeg).toInt)
  refine lv_aload_n hx hb dL_law_667 rfl (lv_at hl 3 rfl) ?_
  refine lv_iload_n hx hb dL_law_668 rfl (lv_at hl 0 rfl) ?_
  refine lv_iconst (v := 2) hx hb dL_law_669 (by decide) ?_
  refine lv_iadd hx hb dL_law_670 ?_
  refine lv_topi (fun x11 ex11 => ?_)
  have tx11 : x11.toInt = x0.toInt + 2 := (jadd ex11 rfl jz_2 (by omega) (by omega)).trans (by omega)
  refine va_sld hx hb hX hbl hbA hS (jin tx11 (by omega) (by omega)) dL_law_671 ?_
  have g12 := jrg (rfl : (xs x11.toNatClampNeg).toInt = (xs x11.toNatClampNeg).toInt)
  refine jcallV (As := [.int (xs x9.toNatClampNeg), .int (xs x11.toNatClampNeg)]) (rest := []) ⟨hx, hb, hml, hown, hts⟩ hK hP hA hS hZ (c_X11_fielded l D cI cL ad zz hJ σ τ (xs x9.toNatClampNeg) ((xs x9.toNatClampNeg).toInt) rfl (xs x11.toNatClampNeg) ((xs x11.toNatClampNeg).toInt) rfl hI2 hI16 hI22 hI31) cw_RL_77 (jc_0 cI cL ad σ τ) rfl ⟨Nat.le_of_ble_eq_true rfl, Nat.le_of_ble_eq_true rfl⟩ rfl rfl rfl hl.1 rfl (Nat.le_of_ble_eq_true rfl) dL_law_672 ⟨Nat.le_of_ble_eq_true rfl, Nat.le_of_ble_eq_true rfl⟩ (fun r14 σ13 τ13 H locs h13 hP hS => ?_)
  obtain ⟨rfl, f15, f16, I17, h13⟩ := h13
  refine lv_pop hx hb dL_law_675 rfl ?_
  refine lv_aload_n hx hb dL_law_676 rfl (lv_at hl 1 rfl) ?_
  refine lv_aload_n hx hb dL_law_677 rfl (lv_at hl 3 rfl) ?_
  refine lv_iload_n hx hb dL_law_678 rfl (lv_at hl 0 rfl) ?_
  refine lv_iconst (v := 1) hx hb dL_law_679 (by decide) ?_
  refine lv_iadd hx hb dL_law_680 ?_
  refine jtopr ex9.symm ?_
  refine va_sld hx hb hX hbl hbA hS (jin tx9 (by omega) (by omega)) dL_law_681 ?_
  refine lv_aload_n hx hb dL_law_682 rfl (lv_at hl 3 rfl) ?_
  refine lv_iload_n hx hb dL_law_683 rfl (lv_at hl 0 rfl) ?_
  refine lv_iconst (v := 2) hx hb dL_law_684 (by decide) ?_
  refine lv_iadd hx hb dL_law_685 ?_
  refine jtopr ex11.symm ?_
  refine va_sld hx hb hX hbl hbA hS (jin tx11 (by omega) (by omega)) dL_law_686 ?_
  have I19 : jI101 σ13 := jI101_fr (congrFun (f15 55 (by decide)) 4) (congrFun (f15 55 (by decide)) 5) (f15 56 (by decide)) (f15 57 (by decide)) (f15 58 (by decide)) (f15 59 (by decide)) hI101
  have I20 : jI102 σ13 := jI102_fr (congrFun (f15 55 (by decide)) 6) (f15 60 (by decide)) (f15 61 (by decide)) hI102
  have I21 : jI103 σ13 := jI103_fr (congrFun (f15 55 (by decide)) 9) hI103
  have I22 : jI104 σ13 := jI104_fr (congrFun (f15 55 (by decide)) 10) (congrFun (f15 55 (by decide)) 12) (congrFun (f15 55 (by decide)) 13) (f15 62 (by decide)) (f15 67 (by decide)) hI104
  have I23 : jI105 σ13 := jI105_fr (congrFun (f15 55 (by decide)) 15) (f15 65 (by decide)) hI105
  have I24 : jI106 σ13 := jI106_fr (congrFun (f15 55 (by decide)) 32) (f15 70 (by decide)) (f15 71 (by decide)) (f15 72 (by decide)) hI106
  have I25 : jI119 σ13 := jI119_fr (f15 68 (by decide)) hI119
  have p26 : jKept σ13 := jKept.fr (f15 75 (by decide)) (f15 76 (by decide)) (f15 77 (by decide)) hs_jKept
  have z27 : (σ13 55 9).toInt = (σ 55 9).toInt := (congrArg Int32.toInt (show σ13 55 9 = (σ 55 9) from (congrFun (f15 55 (by decide)) 9)))
  refine jcallV (As := [.int (xs x9.toNatClampNeg), .int (xs x11.toNatClampNeg)]) (rest := []) ⟨hx, hb, hml, hown, hts⟩ hK hP hA hS hZ (c_X12_fielded l D cI cL ad zz hJ σ13 τ (xs x9.toNatClampNeg) ((xs x9.toNatClampNeg).toInt) rfl (xs x11.toNatClampNeg) ((xs x11.toNatClampNeg).toInt) rfl I19 I20 I21 I22 I23 I24 I25 p26) cw_RL_80 (jc_55 cI cL ad σ13 τ) rfl ⟨Nat.le_of_ble_eq_true rfl, Nat.le_of_ble_eq_true rfl⟩ rfl rfl rfl hl.1 rfl (Nat.le_of_ble_eq_true rfl) dL_law_687 ⟨Nat.le_of_ble_eq_true rfl, Nat.le_of_ble_eq_true rfl⟩ (fun r29 σ28 τ28 H locs h28 hP hS => ?_)
  obtain ⟨rfl, f30, f31, I32, I33, p34, h28⟩ := h28
  obtain ⟨k36, h28⟩ := h28
  refine lv_pop hx hb dL_law_690 rfl ?_
  refine lv_goto (tgt := 1357) hx hb dL_law_691 (by decide) ?_
  obtain ⟨x37, ex37⟩ : ∃ y : Int32, y = x0 + 6 := ⟨_, rfl⟩
  have tx37 : x37.toInt = x0.toInt + 6 := (jadd ex37 rfl jz_6 (by omega) (by omega)).trans (by omega)
  refine lv_iinc (v := x37) (lv' := [(3, .int x37), (2, .ref (ad 55)), (1, .ref (ad 0)), (0, .ref b)]) hx hb dL_law_1357 hl (k := 0) rfl (by rw [ex37]; rfl) (by decide) rfl (fun ls hl => ?_)
  refine lv_goto (tgt := 18) hx hb dL_law_1360 (by decide) ?_
  have I38 : jI2 σ28 := jI2_fr ((congrFun (f30 2 (by decide)) 0).trans (congrFun (f15 2 (by decide)) 0)) ((congrFun (f30 2 (by decide)) 1).trans (congrFun (f15 2 (by decide)) 1)) ((congrFun (f30 2 (by decide)) 2).trans (congrFun (f15 2 (by decide)) 2)) ((congrFun (f30 2 (by decide)) 3).trans (congrFun (f15 2 (by decide)) 3)) ((f30 6 (by decide)).trans (f15 6 (by decide))) hI2
  have I39 : jI9 σ28 := jI9_fr ((congrFun (f30 9 (by decide)) 0).trans (congrFun (f15 9 (by decide)) 0)) ((f30 10 (by decide)).trans (f15 10 (by decide))) ((f30 11 (by decide)).trans (f15 11 (by decide))) hI9
  have I40 : jI12 σ28 := jI12_fr ((congrFun (f30 12 (by decide)) 0).trans (congrFun (f15 12 (by decide)) 0)) ((f30 13 (by decide)).trans (f15 13 (by decide))) hI12
  have I41 : jI16 σ28 := jI16_fr ((congrFun (f30 16 (by decide)) 0).trans (congrFun (f15 16 (by decide)) 0)) ((congrFun (f30 16 (by decide)) 1).trans (congrFun (f15 16 (by decide)) 1)) ((congrFun (f30 16 (by decide)) 2).trans (congrFun (f15 16 (by decide)) 2)) ((f30 17 (by decide)).trans (f15 17 (by decide))) hI16
  have I42 : jI18 σ28 := jI18_fr ((congrFun (f30 18 (by decide)) 0).trans (congrFun (f15 18 (by decide)) 0)) ((f30 19 (by decide)).trans (f15 19 (by decide))) hI18
  have I43 : jI22 σ28 := jI22_fr ((congrFun (f30 22 (by decide)) 0).trans (congrFun (f15 22 (by decide)) 0)) ((f30 23 (by decide)).trans (f15 23 (by decide))) hI22
  have I44 : jI31 σ28 := jI31_fr (congrFun (f30 31 (by decide)) 8) (f30 33 (by decide)) (f30 36 (by decide)) I17
  have I45 : jI38 σ28 := jI38_fr ((congrFun (f30 38 (by decide)) 0).trans (congrFun (f15 38 (by decide)) 0)) ((congrFun (f30 38 (by decide)) 1).trans (congrFun (f15 38 (by decide)) 1)) ((f30 39 (by decide)).trans (f15 39 (by decide))) hI38
  have I46 : jI43 σ28 := jI43_fr ((congrFun (f30 43 (by decide)) 8).trans (congrFun (f15 43 (by decide)) 8)) hI43
  have I47 : jI47 σ28 := jI47_fr ((congrFun (f30 47 (by decide)) 0).trans (congrFun (f15 47 (by decide)) 0)) ((f30 48 (by decide)).trans (f15 48 (by decide))) ((f30 49 (by decide)).trans (f15 49 (by decide))) hI47
  have I48 : jI50 σ28 := jI50_fr ((f30 52 (by decide)).trans (f15 52 (by decide))) hI50
  have I49 : jI101 σ28 := jI101_fr (f31 4 (by decide)) (f31 5 (by decide)) (f30 56 (by decide)) (f30 57 (by decide)) (f30 58 (by decide)) (f30 59 (by decide)) I19
  have I50 : jI102 σ28 := jI102_fr (f31 6 (by decide)) (f30 60 (by decide)) (f30 61 (by decide)) I20
  have I51 : jI104 σ28 := jI104_fr (f31 10 (by decide)) (f31 12 (by decide)) (f31 13 (by decide)) (f30 62 (by decide)) (f30 67 (by decide)) I22
  have I52 : jI105 σ28 := jI105_fr (f31 15 (by decide)) (f30 65 (by decide)) I23
  have I53 : jI106 σ28 := jI106_fr (f31 32 (by decide)) (f30 70 (by decide)) (f30 71 (by decide)) (f30 72 (by decide)) I24
  have I54 : jI107 σ28 := jI107_fr ((f31 12 (by decide)).trans (congrFun (f15 55 (by decide)) 12)) ((f31 47 (by decide)).trans (congrFun (f15 55 (by decide)) 47)) ((f30 80 (by decide)).trans (f15 80 (by decide))) hI107
  have I55 : jI109 σ28 := jI109_fr ((f31 50 (by decide)).trans (congrFun (f15 55 (by decide)) 50)) hI109
  have I56 : jI110 σ28 := jI110_fr ((f30 86 (by decide)).trans (f15 86 (by decide))) ((f30 87 (by decide)).trans (f15 87 (by decide))) hI110
  have I57 : jI111 σ28 := jI111_fr ((f30 79 (by decide)).trans (f15 79 (by decide))) hI111
  have p58 : jBook σ28 := jBook.fr ((f31 47 (by decide)).trans (congrFun (f15 55 (by decide)) 47)) ((f31 10 (by decide)).trans (congrFun (f15 55 (by decide)) 10)) ((f30 81 (by decide)).trans (f15 81 (by decide))) hs_jBook
  have z59 : (σ28 38 0).toInt = (σ 38 0).toInt := (congrArg Int32.toInt (show σ28 38 0 = (σ 38 0) from ((congrFun (f30 38 (by decide)) 0).trans (congrFun (f15 38 (by decide)) 0))))
  have z60 : (σ28 55 32).toInt = (σ 55 32).toInt := (congrArg Int32.toInt (show σ28 55 32 = (σ 55 32) from ((f31 32 (by decide)).trans (congrFun (f15 55 (by decide)) 32))))
  exact ih x37 σ28 τ _ _ ls (by have h9 := tx37; omega) ⟨I38, I39, I40, I41, I42, I43, I44, I45, I46, I47, I48, I49, I50, I32, I51, I52, I53, I54, I55, I56, I57, I33, p34, p58, (by omega), (show jShP (σ28 51) (σ28 52) (σ28 53) (σ28 86) (σ28 87) (σ28 55 32).toInt by rw [show σ28 51 = σ 51 from ((f30 51 (by decide)).trans (f15 51 (by decide))), show σ28 52 = σ 52 from ((f30 52 (by decide)).trans (f15 52 (by decide))), show σ28 53 = σ 53 from ((f30 53 (by decide)).trans (f15 53 (by decide))), show σ28 86 = σ 86 from ((f30 86 (by decide)).trans (f15 86 (by decide))), show σ28 87 = σ 87 from ((f30 87 (by decide)).trans (f15 87 (by decide)))]; exact (hr0.up (by omega) (by omega))), (show jKd (σ28 39) (σ28 70) (σ28 55 32).toInt by rw [show σ28 39 = σ 39 from ((f30 39 (by decide)).trans (f15 39 (by decide))), show σ28 70 = σ 70 from ((f30 70 (by decide)).trans (f15 70 (by decide))), show (σ28 55 32).toInt = (σ 55 32).toInt from by omega]; exact hr1)⟩ hP hS (lv_sub hl [0, 1, 2, 3] rfl)
set_option maxHeartbeats 4000000 in
set_option maxRecDepth 100000 in
theorem law_case_16 {p : Program} {e : Env} {s : State} {m : MethodId} {below : List Frame} {meth : Method} {c : Code} (l : Launch) {b L : Nat} {xs : Nat → Int32} {D : va_G} {cI cL : ClassId} {ad zz : Nat → Nat} (C0 : lw_At p s m meth c b L xs) (hJ : jD ad) (hA : ∀ q, jA ad q → s.heap.size ≤ q) (hK : jK D cI cL s) (hZ : jZ zz (fun q : Nat => s.heap.size ≤ q) s s.heap) {x0 : Int32} (hx0 : 0 ≤ x0.toInt) (hxL : x0.toInt + 6 ≤ (L : Int)) (hL : L ≤ 384) {σ : Nat → Nat → Int32} {τ : Nat → Nat → Int64} {H : Heap} {locs : List Loc} (hS : va_S (fun q : Nat => s.heap.size ≤ q) s.heap H locs) {ls : Array Slot} (hAll : jAll σ τ) (hP : jH D cI cL ad σ τ H) (hl : lv_has ls 4 [(3, .int x0), (2, .ref (ad 55)), (1, .ref (ad 0)), (0, .ref b)]) (ih : ∀ (x1 : Int32) (σ : Nat → Nat → Int32) (τ : Nat → Nat → Int64) (H : Heap) (locs : List Loc) (ls : Array Slot), x1.toInt = x0.toInt + 6 → jAll σ τ → jH D cI cL ad σ τ H → va_S (fun q : Nat => s.heap.size ≤ q) s.heap H locs → lv_has ls 4 [(3, .int x1), (2, .ref (ad 55)), (1, .ref (ad 0)), (0, .ref b)] → W p l e room_1 s m #[Value.ref b] below meth c H locs 90 348600 (lw_Z below #[Value.ref b] s) (F0 m 18 ls [])) : W p l e room_1 s m #[Value.ref b] below meth c H locs 90 348600 (lw_Z below #[Value.ref b] s) (F0 m 694 ls []) := by
  obtain ⟨hx, hb, hr, hml, hown, hts0, hX, hbl, hlocks, hgv⟩ := C0
  have hts : ∀ w ∈ wsL_law, w.before #[Value.ref b] s = true := fun w h => hts0 w (wsL_law_in w h)
  have hbA : ¬ (fun q : Nat => s.heap.size ≤ q) b := Nat.not_le.mpr hbl
  have hown : s.vm.findClass RL = some m.cls := hown
  obtain ⟨hI2, hI9, hI12, hI16, hI18, hI22, hI31, hI38, hI43, hI47, hI50, hI101, hI102, hI103, hI104, hI105, hI106, hI107, hI109, hI110, hI111, hI119, hs_jKept, hs_jBook, ht0, hr0, hr1⟩ := hAll
  have hL9 : (L : Int) ≤ 384 := by omega
  obtain ⟨i1, i2, w3⟩ : (0 ≤ (σ 38 0).toInt ∧ (σ 38 0).toInt ≤ 20) ∧ (0 ≤ (σ 38 1).toInt ∧ (σ 38 1).toInt ≤ 1000) ∧ (∀ k : Nat, k < 20 → 0 ≤ (σ 39 k).toInt ∧ (σ 39 k).toInt ≤ 6) := id hI38
  obtain ⟨i4, w5, w6, w7⟩ : (0 ≤ (σ 55 32).toInt ∧ (σ 55 32).toInt ≤ 20) ∧ (∀ k : Nat, k < 20 → 0 ≤ (σ 70 k).toInt ∧ (σ 70 k).toInt ≤ 6) ∧ (∀ k : Nat, k < 20 → 0 ≤ (σ 71 k).toInt ∧ (σ 71 k).toInt ≤ 8) ∧ (∀ k : Nat, k < 160 → 0 ≤ (σ 72 k).toInt ∧ (σ 72 k).toInt ≤ 3) := id hI106
  refine lv_aload_n hx hb dL_law_694 rfl (lv_at hl 2 rfl) ?_
  refine lv_aload_n hx hb dL_law_695 rfl (lv_at hl 3 rfl) ?_
  refine lv_iload_n hx hb dL_law_696 rfl (lv_at hl 0 rfl) ?_
  refine lv_iconst (v := 1) hx hb dL_law_697 (by decide) ?_
  have g8 := jrg (rfl : x0.toInt = x0.toInt)
  refine lv_iadd hx hb dL_law_698 ?_
  refine lv_topi (fun x9 ex9 => ?_)
  have tx9 : x9.toInt = x0.toInt + 1 := (jadd ex9 rfl jz_1 (by omega) (by omega)).trans (by omega)
  refine va_sld hx hb hX hbl hbA hS (jin tx9 (by omega) (by omega)) dL_law_699 ?_
  have g10 := jrg (rfl : (xs x9.toNatClampNeg).toInt = (xs x9.toNatClampNeg).toInt)
  refine jcallV (As := [.int (xs x9.toNatClampNeg)]) (rest := []) ⟨hx, hb, hml, hown, hts⟩ hK hP hA hS hZ (c_X11_kept l D cI cL ad zz hJ σ τ (xs x9.toNatClampNeg) ((xs x9.toNatClampNeg).toInt) rfl hI2 hI16 hI22 hI31) cw_RL_81 (jc_0 cI cL ad σ τ) rfl ⟨Nat.le_of_ble_eq_true rfl, Nat.le_of_ble_eq_true rfl⟩ rfl rfl rfl hl.1 rfl (Nat.le_of_ble_eq_true rfl) dL_law_700 ⟨Nat.le_of_ble_eq_true rfl, Nat.le_of_ble_eq_true rfl⟩ (fun r12 σ11 τ11 H locs h11 hP hS => ?_)
  obtain ⟨rfl, f13, f14, I15, h11⟩ := h11
  refine lv_pop hx hb dL_law_703 rfl ?_
  refine lv_aload_n hx hb dL_law_704 rfl (lv_at hl 1 rfl) ?_
  refine lv_aload_n hx hb dL_law_705 rfl (lv_at hl 3 rfl) ?_
  refine lv_iload_n hx hb dL_law_706 rfl (lv_at hl 0 rfl) ?_
  refine lv_iconst (v := 1) hx hb dL_law_707 (by decide) ?_
  refine lv_iadd hx hb dL_law_708 ?_
  refine jtopr ex9.symm ?_
  refine va_sld hx hb hX hbl hbA hS (jin tx9 (by omega) (by omega)) dL_law_709 ?_
  have I17 : jI101 σ11 := jI101_fr (congrFun (f13 55 (by decide)) 4) (congrFun (f13 55 (by decide)) 5) (f13 56 (by decide)) (f13 57 (by decide)) (f13 58 (by decide)) (f13 59 (by decide)) hI101
  have I18 : jI102 σ11 := jI102_fr (congrFun (f13 55 (by decide)) 6) (f13 60 (by decide)) (f13 61 (by decide)) hI102
  have I19 : jI103 σ11 := jI103_fr (congrFun (f13 55 (by decide)) 9) hI103
  have I20 : jI104 σ11 := jI104_fr (congrFun (f13 55 (by decide)) 10) (congrFun (f13 55 (by decide)) 12) (congrFun (f13 55 (by decide)) 13) (f13 62 (by decide)) (f13 67 (by decide)) hI104
  have I21 : jI105 σ11 := jI105_fr (congrFun (f13 55 (by decide)) 15) (f13 65 (by decide)) hI105
  have I22 : jI106 σ11 := jI106_fr (congrFun (f13 55 (by decide)) 32) (f13 70 (by decide)) (f13 71 (by decide)) (f13 72 (by decide)) hI106
  have I23 : jI119 σ11 := jI119_fr (f13 68 (by decide)) hI119
  have p24 : jKept σ11 := jKept.fr (f13 75 (by decide)) (f13 76 (by decide)) (f13 77 (by decide)) hs_jKept
  refine jcallV (As := [.int (xs x9.toNatClampNeg)]) (rest := []) ⟨hx, hb, hml, hown, hts⟩ hK hP hA hS hZ (c_X12_kept l D cI cL ad zz hJ σ11 τ (xs x9.toNatClampNeg) ((xs x9.toNatClampNeg).toInt) rfl I17 I18 I19 I20 I21 I22 I23 p24) cw_RL_84 (jc_55 cI cL ad σ11 τ) rfl ⟨Nat.le_of_ble_eq_true rfl, Nat.le_of_ble_eq_true rfl⟩ rfl rfl rfl hl.1 rfl (Nat.le_of_ble_eq_true rfl) dL_law_710 ⟨Nat.le_of_ble_eq_true rfl, Nat.le_of_ble_eq_true rfl⟩ (fun r26 σ25 τ25 H locs h25 hP hS => ?_)
  obtain ⟨rfl, f27, f28, I29, p30, h25⟩ := h25
  refine lv_pop hx hb dL_law_713 rfl ?_
  refine lv_goto (tgt := 1357) hx hb dL_law_714 (by decide) ?_
  obtain ⟨x32, ex32⟩ : ∃ y : Int32, y = x0 + 6 := ⟨_, rfl⟩
  have tx32 : x32.toInt = x0.toInt + 6 := (jadd ex32 rfl jz_6 (by omega) (by omega)).trans (by omega)
  refine lv_iinc (v := x32) (lv' := [(3, .int x32), (2, .ref (ad 55)), (1, .ref (ad 0)), (0, .ref b)]) hx hb dL_law_1357 hl (k := 0) rfl (by rw [ex32]; rfl) (by decide) rfl (fun ls hl => ?_)
  refine lv_goto (tgt := 18) hx hb dL_law_1360 (by decide) ?_
  have I33 : jI2 σ25 := jI2_fr ((congrFun (f27 2 (by decide)) 0).trans (congrFun (f13 2 (by decide)) 0)) ((congrFun (f27 2 (by decide)) 1).trans (congrFun (f13 2 (by decide)) 1)) ((congrFun (f27 2 (by decide)) 2).trans (congrFun (f13 2 (by decide)) 2)) ((congrFun (f27 2 (by decide)) 3).trans (congrFun (f13 2 (by decide)) 3)) ((f27 6 (by decide)).trans (f13 6 (by decide))) hI2
  have I34 : jI9 σ25 := jI9_fr ((congrFun (f27 9 (by decide)) 0).trans (congrFun (f13 9 (by decide)) 0)) ((f27 10 (by decide)).trans (f13 10 (by decide))) ((f27 11 (by decide)).trans (f13 11 (by decide))) hI9
  have I35 : jI12 σ25 := jI12_fr ((congrFun (f27 12 (by decide)) 0).trans (congrFun (f13 12 (by decide)) 0)) ((f27 13 (by decide)).trans (f13 13 (by decide))) hI12
  have I36 : jI16 σ25 := jI16_fr ((congrFun (f27 16 (by decide)) 0).trans (congrFun (f13 16 (by decide)) 0)) ((congrFun (f27 16 (by decide)) 1).trans (congrFun (f13 16 (by decide)) 1)) ((congrFun (f27 16 (by decide)) 2).trans (congrFun (f13 16 (by decide)) 2)) ((f27 17 (by decide)).trans (f13 17 (by decide))) hI16
  have I37 : jI18 σ25 := jI18_fr ((congrFun (f27 18 (by decide)) 0).trans (congrFun (f13 18 (by decide)) 0)) ((f27 19 (by decide)).trans (f13 19 (by decide))) hI18
  have I38 : jI22 σ25 := jI22_fr ((congrFun (f27 22 (by decide)) 0).trans (congrFun (f13 22 (by decide)) 0)) ((f27 23 (by decide)).trans (f13 23 (by decide))) hI22
  have I39 : jI31 σ25 := jI31_fr (congrFun (f27 31 (by decide)) 8) (f27 33 (by decide)) (f27 36 (by decide)) I15
  have I40 : jI38 σ25 := jI38_fr ((congrFun (f27 38 (by decide)) 0).trans (congrFun (f13 38 (by decide)) 0)) ((congrFun (f27 38 (by decide)) 1).trans (congrFun (f13 38 (by decide)) 1)) ((f27 39 (by decide)).trans (f13 39 (by decide))) hI38
  have I41 : jI43 σ25 := jI43_fr ((congrFun (f27 43 (by decide)) 8).trans (congrFun (f13 43 (by decide)) 8)) hI43
  have I42 : jI47 σ25 := jI47_fr ((congrFun (f27 47 (by decide)) 0).trans (congrFun (f13 47 (by decide)) 0)) ((f27 48 (by decide)).trans (f13 48 (by decide))) ((f27 49 (by decide)).trans (f13 49 (by decide))) hI47
  have I43 : jI50 σ25 := jI50_fr ((f27 52 (by decide)).trans (f13 52 (by decide))) hI50
  have I44 : jI101 σ25 := jI101_fr (f28 4 (by decide)) (f28 5 (by decide)) (f27 56 (by decide)) (f27 57 (by decide)) (f27 58 (by decide)) (f27 59 (by decide)) I17
  have I45 : jI102 σ25 := jI102_fr (f28 6 (by decide)) (f27 60 (by decide)) (f27 61 (by decide)) I18
  have I46 : jI103 σ25 := jI103_fr (f28 9 (by decide)) I19
  have I47 : jI104 σ25 := jI104_fr (f28 10 (by decide)) (f28 12 (by decide)) (f28 13 (by decide)) (f27 62 (by decide)) (f27 67 (by decide)) I20
  have I48 : jI105 σ25 := jI105_fr (f28 15 (by decide)) (f27 65 (by decide)) I21
  have I49 : jI106 σ25 := jI106_fr (f28 32 (by decide)) (f27 70 (by decide)) (f27 71 (by decide)) (f27 72 (by decide)) I22
  have I50 : jI107 σ25 := jI107_fr ((f28 12 (by decide)).trans (congrFun (f13 55 (by decide)) 12)) ((f28 47 (by decide)).trans (congrFun (f13 55 (by decide)) 47)) ((f27 80 (by decide)).trans (f13 80 (by decide))) hI107
  have I51 : jI109 σ25 := jI109_fr ((f28 50 (by decide)).trans (congrFun (f13 55 (by decide)) 50)) hI109
  have I52 : jI110 σ25 := jI110_fr ((f27 86 (by decide)).trans (f13 86 (by decide))) ((f27 87 (by decide)).trans (f13 87 (by decide))) hI110
  have I53 : jI111 σ25 := jI111_fr ((f27 79 (by decide)).trans (f13 79 (by decide))) hI111
  have p54 : jBook σ25 := jBook.fr ((f28 47 (by decide)).trans (congrFun (f13 55 (by decide)) 47)) ((f28 10 (by decide)).trans (congrFun (f13 55 (by decide)) 10)) ((f27 81 (by decide)).trans (f13 81 (by decide))) hs_jBook
  have z55 : (σ25 38 0).toInt = (σ 38 0).toInt := (congrArg Int32.toInt (show σ25 38 0 = (σ 38 0) from ((congrFun (f27 38 (by decide)) 0).trans (congrFun (f13 38 (by decide)) 0))))
  have z56 : (σ25 55 32).toInt = (σ 55 32).toInt := (congrArg Int32.toInt (show σ25 55 32 = (σ 55 32) from ((f28 32 (by decide)).trans (congrFun (f13 55 (by decide)) 32))))
  exact ih x32 σ25 τ _ _ ls (by have h9 := tx32; omega) ⟨I33, I34, I35, I36, I37, I38, I39, I40, I41, I42, I43, I44, I45, I46, I47, I48, I49, I50, I51, I52, I53, I29, p30, p54, (by omega), (show jShP (σ25 51) (σ25 52) (σ25 53) (σ25 86) (σ25 87) (σ25 55 32).toInt by rw [show σ25 51 = σ 51 from ((f27 51 (by decide)).trans (f13 51 (by decide))), show σ25 52 = σ 52 from ((f27 52 (by decide)).trans (f13 52 (by decide))), show σ25 53 = σ 53 from ((f27 53 (by decide)).trans (f13 53 (by decide))), show σ25 86 = σ 86 from ((f27 86 (by decide)).trans (f13 86 (by decide))), show σ25 87 = σ 87 from ((f27 87 (by decide)).trans (f13 87 (by decide)))]; exact (hr0.up (by omega) (by omega))), (show jKd (σ25 39) (σ25 70) (σ25 55 32).toInt by rw [show σ25 39 = σ 39 from ((f27 39 (by decide)).trans (f13 39 (by decide))), show σ25 70 = σ 70 from ((f27 70 (by decide)).trans (f13 70 (by decide))), show (σ25 55 32).toInt = (σ 55 32).toInt from by omega]; exact hr1)⟩ hP hS (lv_sub hl [0, 1, 2, 3] rfl)
set_option maxHeartbeats 4000000 in
set_option maxRecDepth 100000 in
theorem law_case_17 {p : Program} {e : Env} {s : State} {m : MethodId} {below : List Frame} {meth : Method} {c : Code} (l : Launch) {b L : Nat} {xs : Nat → Int32} {D : va_G} {cI cL : ClassId} {ad zz : Nat → Nat} (C0 : lw_At p s m meth c b L xs) (hJ : jD ad) (hA : ∀ q, jA ad q → s.heap.size ≤ q) (hK : jK D cI cL s) (hZ : jZ zz (fun q : Nat => s.heap.size ≤ q) s s.heap) {x0 : Int32} (hx0 : 0 ≤ x0.toInt) (hxL : x0.toInt + 6 ≤ (L : Int)) (hL : L ≤ 384) {σ : Nat → Nat → Int32} {τ : Nat → Nat → Int64} {H : Heap} {locs : List Loc} (hS : va_S (fun q : Nat => s.heap.size ≤ q) s.heap H locs) {ls : Array Slot} (hAll : jAll σ τ) (hP : jH D cI cL ad σ τ H) (hl : lv_has ls 4 [(3, .int x0), (2, .ref (ad 55)), (1, .ref (ad 0)), (0, .ref b)]) (ih : ∀ (x1 : Int32) (σ : Nat → Nat → Int32) (τ : Nat → Nat → Int64) (H : Heap) (locs : List Loc) (ls : Array Slot), x1.toInt = x0.toInt + 6 → jAll σ τ → jH D cI cL ad σ τ H → va_S (fun q : Nat => s.heap.size ≤ q) s.heap H locs → lv_has ls 4 [(3, .int x1), (2, .ref (ad 55)), (1, .ref (ad 0)), (0, .ref b)] → W p l e room_1 s m #[Value.ref b] below meth c H locs 90 348600 (lw_Z below #[Value.ref b] s) (F0 m 18 ls [])) : W p l e room_1 s m #[Value.ref b] below meth c H locs 90 348600 (lw_Z below #[Value.ref b] s) (F0 m 717 ls []) := by
  obtain ⟨hx, hb, hr, hml, hown, hts0, hX, hbl, hlocks, hgv⟩ := C0
  have hts : ∀ w ∈ wsL_law, w.before #[Value.ref b] s = true := fun w h => hts0 w (wsL_law_in w h)
  have hbA : ¬ (fun q : Nat => s.heap.size ≤ q) b := Nat.not_le.mpr hbl
  have hown : s.vm.findClass RL = some m.cls := hown
  obtain ⟨hI2, hI9, hI12, hI16, hI18, hI22, hI31, hI38, hI43, hI47, hI50, hI101, hI102, hI103, hI104, hI105, hI106, hI107, hI109, hI110, hI111, hI119, hs_jKept, hs_jBook, ht0, hr0, hr1⟩ := hAll
  have hL9 : (L : Int) ≤ 384 := by omega
  obtain ⟨i1, i2, w3⟩ : (0 ≤ (σ 38 0).toInt ∧ (σ 38 0).toInt ≤ 20) ∧ (0 ≤ (σ 38 1).toInt ∧ (σ 38 1).toInt ≤ 1000) ∧ (∀ k : Nat, k < 20 → 0 ≤ (σ 39 k).toInt ∧ (σ 39 k).toInt ≤ 6) := id hI38
  obtain ⟨i4, w5, w6, w7⟩ : (0 ≤ (σ 55 32).toInt ∧ (σ 55 32).toInt ≤ 20) ∧ (∀ k : Nat, k < 20 → 0 ≤ (σ 70 k).toInt ∧ (σ 70 k).toInt ≤ 6) ∧ (∀ k : Nat, k < 20 → 0 ≤ (σ 71 k).toInt ∧ (σ 71 k).toInt ≤ 8) ∧ (∀ k : Nat, k < 160 → 0 ≤ (σ 72 k).toInt ∧ (σ 72 k).toInt ≤ 3) := id hI106
  refine lv_aload_n hx hb dL_law_717 rfl (lv_at hl 2 rfl) ?_
  refine lv_aload_n hx hb dL_law_718 rfl (lv_at hl 3 rfl) ?_
  refine lv_iload_n hx hb dL_law_719 rfl (lv_at hl 0 rfl) ?_
  refine lv_iconst (v := 1) hx hb dL_law_720 (by decide) ?_
  have g8 := jrg (rfl : x0.toInt = x0.toInt)
  refine lv_iadd hx hb dL_law_721 ?_
  refine lv_topi (fun x9 ex9 => ?_)
  have tx9 : x9.toInt = x0.toInt + 1 := (jadd ex9 rfl jz_1 (by omega) (by omega)).trans (by omega)
  refine va_sld hx hb hX hbl hbA hS (jin tx9 (by omega) (by omega)) dL_law_722 ?_
  have g10 := jrg (rfl : (xs x9.toNatClampNeg).toInt = (xs x9.toNatClampNeg).toInt)
  refine jcallV (As := [.int (xs x9.toNatClampNeg)]) (rest := []) ⟨hx, hb, hml, hown, hts⟩ hK hP hA hS hZ (c_X11_theirs l D cI cL ad zz hJ σ τ (xs x9.toNatClampNeg) ((xs x9.toNatClampNeg).toInt) rfl hI2 hI16 hI22 hI31) cw_RL_85 (jc_0 cI cL ad σ τ) rfl ⟨Nat.le_of_ble_eq_true rfl, Nat.le_of_ble_eq_true rfl⟩ rfl rfl rfl hl.1 rfl (Nat.le_of_ble_eq_true rfl) dL_law_723 ⟨Nat.le_of_ble_eq_true rfl, Nat.le_of_ble_eq_true rfl⟩ (fun r12 σ11 τ11 H locs h11 hP hS => ?_)
  obtain ⟨rfl, f13, f14, I15, h11⟩ := h11
  refine lv_pop hx hb dL_law_726 rfl ?_
  refine lv_aload_n hx hb dL_law_727 rfl (lv_at hl 1 rfl) ?_
  refine lv_aload_n hx hb dL_law_728 rfl (lv_at hl 3 rfl) ?_
  refine lv_iload_n hx hb dL_law_729 rfl (lv_at hl 0 rfl) ?_
  refine lv_iconst (v := 1) hx hb dL_law_730 (by decide) ?_
  refine lv_iadd hx hb dL_law_731 ?_
  refine jtopr ex9.symm ?_
  refine va_sld hx hb hX hbl hbA hS (jin tx9 (by omega) (by omega)) dL_law_732 ?_
  have I17 : jI101 σ11 := jI101_fr (congrFun (f13 55 (by decide)) 4) (congrFun (f13 55 (by decide)) 5) (f13 56 (by decide)) (f13 57 (by decide)) (f13 58 (by decide)) (f13 59 (by decide)) hI101
  have I18 : jI102 σ11 := jI102_fr (congrFun (f13 55 (by decide)) 6) (f13 60 (by decide)) (f13 61 (by decide)) hI102
  have I19 : jI103 σ11 := jI103_fr (congrFun (f13 55 (by decide)) 9) hI103
  have I20 : jI104 σ11 := jI104_fr (congrFun (f13 55 (by decide)) 10) (congrFun (f13 55 (by decide)) 12) (congrFun (f13 55 (by decide)) 13) (f13 62 (by decide)) (f13 67 (by decide)) hI104
  have I21 : jI105 σ11 := jI105_fr (congrFun (f13 55 (by decide)) 15) (f13 65 (by decide)) hI105
  have I22 : jI106 σ11 := jI106_fr (congrFun (f13 55 (by decide)) 32) (f13 70 (by decide)) (f13 71 (by decide)) (f13 72 (by decide)) hI106
  have I23 : jI119 σ11 := jI119_fr (f13 68 (by decide)) hI119
  have I24 : jI111 σ11 := jI111_fr (f13 79 (by decide)) hI111
  have p25 : jKept σ11 := jKept.fr (f13 75 (by decide)) (f13 76 (by decide)) (f13 77 (by decide)) hs_jKept
  refine jcallV (As := [.int (xs x9.toNatClampNeg)]) (rest := []) ⟨hx, hb, hml, hown, hts⟩ hK hP hA hS hZ (c_X12_theirs l D cI cL ad zz hJ σ11 τ (xs x9.toNatClampNeg) ((xs x9.toNatClampNeg).toInt) rfl I17 I18 I19 I20 I21 I22 I23 I24 p25) cw_RL_88 (jc_55 cI cL ad σ11 τ) rfl ⟨Nat.le_of_ble_eq_true rfl, Nat.le_of_ble_eq_true rfl⟩ rfl rfl rfl hl.1 rfl (Nat.le_of_ble_eq_true rfl) dL_law_733 ⟨Nat.le_of_ble_eq_true rfl, Nat.le_of_ble_eq_true rfl⟩ (fun r27 σ26 τ26 H locs h26 hP hS => ?_)
  obtain ⟨rfl, f28, f29, I30, I31, I32, p33, w34, h26⟩ := h26
  refine lv_pop hx hb dL_law_736 rfl ?_
  refine lv_goto (tgt := 1357) hx hb dL_law_737 (by decide) ?_
  obtain ⟨x36, ex36⟩ : ∃ y : Int32, y = x0 + 6 := ⟨_, rfl⟩
  have tx36 : x36.toInt = x0.toInt + 6 := (jadd ex36 rfl jz_6 (by omega) (by omega)).trans (by omega)
  refine lv_iinc (v := x36) (lv' := [(3, .int x36), (2, .ref (ad 55)), (1, .ref (ad 0)), (0, .ref b)]) hx hb dL_law_1357 hl (k := 0) rfl (by rw [ex36]; rfl) (by decide) rfl (fun ls hl => ?_)
  refine lv_goto (tgt := 18) hx hb dL_law_1360 (by decide) ?_
  have I37 : jI2 σ26 := jI2_fr ((congrFun (f28 2 (by decide)) 0).trans (congrFun (f13 2 (by decide)) 0)) ((congrFun (f28 2 (by decide)) 1).trans (congrFun (f13 2 (by decide)) 1)) ((congrFun (f28 2 (by decide)) 2).trans (congrFun (f13 2 (by decide)) 2)) ((congrFun (f28 2 (by decide)) 3).trans (congrFun (f13 2 (by decide)) 3)) ((f28 6 (by decide)).trans (f13 6 (by decide))) hI2
  have I38 : jI9 σ26 := jI9_fr ((congrFun (f28 9 (by decide)) 0).trans (congrFun (f13 9 (by decide)) 0)) ((f28 10 (by decide)).trans (f13 10 (by decide))) ((f28 11 (by decide)).trans (f13 11 (by decide))) hI9
  have I39 : jI12 σ26 := jI12_fr ((congrFun (f28 12 (by decide)) 0).trans (congrFun (f13 12 (by decide)) 0)) ((f28 13 (by decide)).trans (f13 13 (by decide))) hI12
  have I40 : jI16 σ26 := jI16_fr ((congrFun (f28 16 (by decide)) 0).trans (congrFun (f13 16 (by decide)) 0)) ((congrFun (f28 16 (by decide)) 1).trans (congrFun (f13 16 (by decide)) 1)) ((congrFun (f28 16 (by decide)) 2).trans (congrFun (f13 16 (by decide)) 2)) ((f28 17 (by decide)).trans (f13 17 (by decide))) hI16
  have I41 : jI18 σ26 := jI18_fr ((congrFun (f28 18 (by decide)) 0).trans (congrFun (f13 18 (by decide)) 0)) ((f28 19 (by decide)).trans (f13 19 (by decide))) hI18
  have I42 : jI22 σ26 := jI22_fr ((congrFun (f28 22 (by decide)) 0).trans (congrFun (f13 22 (by decide)) 0)) ((f28 23 (by decide)).trans (f13 23 (by decide))) hI22
  have I43 : jI31 σ26 := jI31_fr (congrFun (f28 31 (by decide)) 8) (f28 33 (by decide)) (f28 36 (by decide)) I15
  have I44 : jI38 σ26 := jI38_fr ((congrFun (f28 38 (by decide)) 0).trans (congrFun (f13 38 (by decide)) 0)) ((congrFun (f28 38 (by decide)) 1).trans (congrFun (f13 38 (by decide)) 1)) ((f28 39 (by decide)).trans (f13 39 (by decide))) hI38
  have I45 : jI43 σ26 := jI43_fr ((congrFun (f28 43 (by decide)) 8).trans (congrFun (f13 43 (by decide)) 8)) hI43
  have I46 : jI47 σ26 := jI47_fr ((congrFun (f28 47 (by decide)) 0).trans (congrFun (f13 47 (by decide)) 0)) ((f28 48 (by decide)).trans (f13 48 (by decide))) ((f28 49 (by decide)).trans (f13 49 (by decide))) hI47
  have I47 : jI50 σ26 := jI50_fr ((f28 52 (by decide)).trans (f13 52 (by decide))) hI50
  have I48 : jI101 σ26 := jI101_fr (f29 4 (by decide)) (f29 5 (by decide)) (f28 56 (by decide)) (f28 57 (by decide)) (f28 58 (by decide)) (f28 59 (by decide)) I17
  have I49 : jI102 σ26 := jI102_fr (f29 6 (by decide)) (f28 60 (by decide)) (f28 61 (by decide)) I18
  have I50 : jI103 σ26 := jI103_fr (f29 9 (by decide)) I19
  have I51 : jI105 σ26 := jI105_fr (f29 15 (by decide)) (f28 65 (by decide)) I21
  have I52 : jI106 σ26 := jI106_fr (f29 32 (by decide)) (f28 70 (by decide)) (f28 71 (by decide)) (f28 72 (by decide)) I22
  have I53 : jI107 σ26 := jI107_fr ((f29 12 (by decide)).trans (congrFun (f13 55 (by decide)) 12)) ((f29 47 (by decide)).trans (congrFun (f13 55 (by decide)) 47)) ((f28 80 (by decide)).trans (f13 80 (by decide))) hI107
  have I54 : jI109 σ26 := jI109_fr ((f29 50 (by decide)).trans (congrFun (f13 55 (by decide)) 50)) hI109
  have I55 : jI110 σ26 := jI110_fr ((f28 86 (by decide)).trans (f13 86 (by decide))) ((f28 87 (by decide)).trans (f13 87 (by decide))) hI110
  have p56 : jBook σ26 := jBook.fr ((f29 47 (by decide)).trans (congrFun (f13 55 (by decide)) 47)) ((f29 10 (by decide)).trans (congrFun (f13 55 (by decide)) 10)) ((f28 81 (by decide)).trans (f13 81 (by decide))) hs_jBook
  have z57 : (σ26 38 0).toInt = (σ 38 0).toInt := (congrArg Int32.toInt (show σ26 38 0 = (σ 38 0) from ((congrFun (f28 38 (by decide)) 0).trans (congrFun (f13 38 (by decide)) 0))))
  have z58 : (σ26 55 32).toInt = (σ 55 32).toInt := (congrArg Int32.toInt (show σ26 55 32 = (σ 55 32) from ((f29 32 (by decide)).trans (congrFun (f13 55 (by decide)) 32))))
  exact ih x36 σ26 τ _ _ ls (by have h9 := tx36; omega) ⟨I37, I38, I39, I40, I41, I42, I43, I44, I45, I46, I47, I48, I49, I50, I30, I51, I52, I53, I54, I55, I31, I32, p33, p56, (by omega), (show jShP (σ26 51) (σ26 52) (σ26 53) (σ26 86) (σ26 87) (σ26 55 32).toInt by rw [show σ26 51 = σ 51 from ((f28 51 (by decide)).trans (f13 51 (by decide))), show σ26 52 = σ 52 from ((f28 52 (by decide)).trans (f13 52 (by decide))), show σ26 53 = σ 53 from ((f28 53 (by decide)).trans (f13 53 (by decide))), show σ26 86 = σ 86 from ((f28 86 (by decide)).trans (f13 86 (by decide))), show σ26 87 = σ 87 from ((f28 87 (by decide)).trans (f13 87 (by decide)))]; exact (hr0.up (by omega) (by omega))), (show jKd (σ26 39) (σ26 70) (σ26 55 32).toInt by rw [show σ26 39 = σ 39 from ((f28 39 (by decide)).trans (f13 39 (by decide))), show σ26 70 = σ 70 from ((f28 70 (by decide)).trans (f13 70 (by decide))), show (σ26 55 32).toInt = (σ 55 32).toInt from by omega]; exact hr1)⟩ hP hS (lv_sub hl [0, 1, 2, 3] rfl)
set_option maxHeartbeats 4000000 in
set_option maxRecDepth 100000 in
theorem law_case_18 {p : Program} {e : Env} {s : State} {m : MethodId} {below : List Frame} {meth : Method} {c : Code} (l : Launch) {b L : Nat} {xs : Nat → Int32} {D : va_G} {cI cL : ClassId} {ad zz : Nat → Nat} (C0 : lw_At p s m meth c b L xs) (hJ : jD ad) (hA : ∀ q, jA ad q → s.heap.size ≤ q) (hK : jK D cI cL s) (hZ : jZ zz (fun q : Nat => s.heap.size ≤ q) s s.heap) {x0 : Int32} (hx0 : 0 ≤ x0.toInt) (hxL : x0.toInt + 6 ≤ (L : Int)) (hL : L ≤ 384) {σ : Nat → Nat → Int32} {τ : Nat → Nat → Int64} {H : Heap} {locs : List Loc} (hS : va_S (fun q : Nat => s.heap.size ≤ q) s.heap H locs) {ls : Array Slot} (hAll : jAll σ τ) (hP : jH D cI cL ad σ τ H) (hl : lv_has ls 4 [(3, .int x0), (2, .ref (ad 55)), (1, .ref (ad 0)), (0, .ref b)]) (ih : ∀ (x1 : Int32) (σ : Nat → Nat → Int32) (τ : Nat → Nat → Int64) (H : Heap) (locs : List Loc) (ls : Array Slot), x1.toInt = x0.toInt + 6 → jAll σ τ → jH D cI cL ad σ τ H → va_S (fun q : Nat => s.heap.size ≤ q) s.heap H locs → lv_has ls 4 [(3, .int x1), (2, .ref (ad 55)), (1, .ref (ad 0)), (0, .ref b)] → W p l e room_1 s m #[Value.ref b] below meth c H locs 90 348600 (lw_Z below #[Value.ref b] s) (F0 m 18 ls [])) : W p l e room_1 s m #[Value.ref b] below meth c H locs 90 348600 (lw_Z below #[Value.ref b] s) (F0 m 740 ls []) := by
  obtain ⟨hx, hb, hr, hml, hown, hts0, hX, hbl, hlocks, hgv⟩ := C0
  have hts : ∀ w ∈ wsL_law, w.before #[Value.ref b] s = true := fun w h => hts0 w (wsL_law_in w h)
  have hbA : ¬ (fun q : Nat => s.heap.size ≤ q) b := Nat.not_le.mpr hbl
  have hown : s.vm.findClass RL = some m.cls := hown
  obtain ⟨hI2, hI9, hI12, hI16, hI18, hI22, hI31, hI38, hI43, hI47, hI50, hI101, hI102, hI103, hI104, hI105, hI106, hI107, hI109, hI110, hI111, hI119, hs_jKept, hs_jBook, ht0, hr0, hr1⟩ := hAll
  have hL9 : (L : Int) ≤ 384 := by omega
  obtain ⟨i1, i2, w3⟩ : (0 ≤ (σ 38 0).toInt ∧ (σ 38 0).toInt ≤ 20) ∧ (0 ≤ (σ 38 1).toInt ∧ (σ 38 1).toInt ≤ 1000) ∧ (∀ k : Nat, k < 20 → 0 ≤ (σ 39 k).toInt ∧ (σ 39 k).toInt ≤ 6) := id hI38
  obtain ⟨i4, w5, w6, w7⟩ : (0 ≤ (σ 55 32).toInt ∧ (σ 55 32).toInt ≤ 20) ∧ (∀ k : Nat, k < 20 → 0 ≤ (σ 70 k).toInt ∧ (σ 70 k).toInt ≤ 6) ∧ (∀ k : Nat, k < 20 → 0 ≤ (σ 71 k).toInt ∧ (σ 71 k).toInt ≤ 8) ∧ (∀ k : Nat, k < 160 → 0 ≤ (σ 72 k).toInt ∧ (σ 72 k).toInt ≤ 3) := id hI106
  refine lv_aload_n hx hb dL_law_740 rfl (lv_at hl 2 rfl) ?_
  refine lv_aload_n hx hb dL_law_741 rfl (lv_at hl 3 rfl) ?_
  refine lv_iload_n hx hb dL_law_742 rfl (lv_at hl 0 rfl) ?_
  refine lv_iconst (v := 1) hx hb dL_law_743 (by decide) ?_
  have g8 := jrg (rfl : x0.toInt = x0.toInt)
  refine lv_iadd hx hb dL_law_744 ?_
  refine lv_topi (fun x9 ex9 => ?_)
  have tx9 : x9.toInt = x0.toInt + 1 := (jadd ex9 rfl jz_1 (by omega) (by omega)).trans (by omega)
  refine va_sld hx hb hX hbl hbA hS (jin tx9 (by omega) (by omega)) dL_law_745 ?_
  have g10 := jrg (rfl : (xs x9.toNatClampNeg).toInt = (xs x9.toNatClampNeg).toInt)
  refine lv_aload_n hx hb dL_law_746 rfl (lv_at hl 3 rfl) ?_
  refine lv_iload_n hx hb dL_law_747 rfl (lv_at hl 0 rfl) ?_
  refine lv_iconst (v := 2) hx hb dL_law_748 (by decide) ?_
  refine lv_iadd hx hb dL_law_749 ?_
  refine lv_topi (fun x11 ex11 => ?_)
  have tx11 : x11.toInt = x0.toInt + 2 := (jadd ex11 rfl jz_2 (by omega) (by omega)).trans (by omega)
  refine va_sld hx hb hX hbl hbA hS (jin tx11 (by omega) (by omega)) dL_law_750 ?_
  have g12 := jrg (rfl : (xs x11.toNatClampNeg).toInt = (xs x11.toNatClampNeg).toInt)
  refine jcallV (As := [.int (xs x9.toNatClampNeg), .int (xs x11.toNatClampNeg)]) (rest := []) ⟨hx, hb, hml, hown, hts⟩ hK hP hA hS hZ (c_X11_learn l D cI cL ad zz hJ σ τ (xs x9.toNatClampNeg) ((xs x9.toNatClampNeg).toInt) rfl (xs x11.toNatClampNeg) ((xs x11.toNatClampNeg).toInt) rfl hI2) cw_RL_89 (jc_0 cI cL ad σ τ) rfl ⟨Nat.le_of_ble_eq_true rfl, Nat.le_of_ble_eq_true rfl⟩ rfl rfl rfl hl.1 rfl (Nat.le_of_ble_eq_true rfl) dL_law_751 ⟨Nat.le_of_ble_eq_true rfl, Nat.le_of_ble_eq_true rfl⟩ (fun r14 σ13 τ13 H locs h13 hP hS => ?_)
  obtain ⟨rfl, f15, f16, I17, h13⟩ := h13
  rcases h13 with h19 | h20
  · obtain ⟨q25, k21, k22, k23, k24⟩ := h19
    have q25 := q25.symm
    subst q25
    refine lv_pop hx hb dL_law_754 rfl ?_
    refine lv_aload_n hx hb dL_law_755 rfl (lv_at hl 1 rfl) ?_
    refine lv_aload_n hx hb dL_law_756 rfl (lv_at hl 3 rfl) ?_
    refine lv_iload_n hx hb dL_law_757 rfl (lv_at hl 0 rfl) ?_
    refine lv_iconst (v := 1) hx hb dL_law_758 (by decide) ?_
    refine lv_iadd hx hb dL_law_759 ?_
    refine jtopr ex9.symm ?_
    refine va_sld hx hb hX hbl hbA hS (jin tx9 (by omega) (by omega)) dL_law_760 ?_
    refine lv_aload_n hx hb dL_law_761 rfl (lv_at hl 3 rfl) ?_
    refine lv_iload_n hx hb dL_law_762 rfl (lv_at hl 0 rfl) ?_
    refine lv_iconst (v := 2) hx hb dL_law_763 (by decide) ?_
    refine lv_iadd hx hb dL_law_764 ?_
    refine jtopr ex11.symm ?_
    refine va_sld hx hb hX hbl hbA hS (jin tx11 (by omega) (by omega)) dL_law_765 ?_
    have I26 : jI101 σ13 := jI101_fr (congrFun (f15 55 (by decide)) 4) (congrFun (f15 55 (by decide)) 5) (f15 56 (by decide)) (f15 57 (by decide)) (f15 58 (by decide)) (f15 59 (by decide)) hI101
    have I27 : jI102 σ13 := jI102_fr (congrFun (f15 55 (by decide)) 6) (f15 60 (by decide)) (f15 61 (by decide)) hI102
    have z28 : (σ13 55 6).toInt = (σ 55 6).toInt := (congrArg Int32.toInt (show σ13 55 6 = (σ 55 6) from (congrFun (f15 55 (by decide)) 6)))
    have z29 : (σ13 55 5).toInt = (σ 55 5).toInt := (congrArg Int32.toInt (show σ13 55 5 = (σ 55 5) from (congrFun (f15 55 (by decide)) 5)))
    have z30 : (σ13 55 4).toInt = (σ 55 4).toInt := (congrArg Int32.toInt (show σ13 55 4 = (σ 55 4) from (congrFun (f15 55 (by decide)) 4)))
    refine jcallV (As := [.int (xs x9.toNatClampNeg), .int (xs x11.toNatClampNeg)]) (rest := []) ⟨hx, hb, hml, hown, hts⟩ hK hP hA hS hZ (c_X12_learn l D cI cL ad zz hJ σ13 τ (xs x9.toNatClampNeg) ((xs x9.toNatClampNeg).toInt) rfl (xs x11.toNatClampNeg) ((xs x11.toNatClampNeg).toInt) rfl I26 I27) cw_RL_92 (jc_55 cI cL ad σ13 τ) rfl ⟨Nat.le_of_ble_eq_true rfl, Nat.le_of_ble_eq_true rfl⟩ rfl rfl rfl hl.1 rfl (Nat.le_of_ble_eq_true rfl) dL_law_766 ⟨Nat.le_of_ble_eq_true rfl, Nat.le_of_ble_eq_true rfl⟩ (fun r32 σ31 τ31 H locs h31 hP hS => ?_)
    obtain ⟨rfl, f33, f34, I35, h31⟩ := h31
    rcases h31 with h37 | h38
    · obtain ⟨q43, k39, k40, k41, k42⟩ := h37
      have q43 := q43.symm
      subst q43
      refine lv_pop hx hb dL_law_769 rfl ?_
      refine lv_goto (tgt := 1357) hx hb dL_law_770 (by decide) ?_
      obtain ⟨x44, ex44⟩ : ∃ y : Int32, y = x0 + 6 := ⟨_, rfl⟩
      have tx44 : x44.toInt = x0.toInt + 6 := (jadd ex44 rfl jz_6 (by omega) (by omega)).trans (by omega)
      refine lv_iinc (v := x44) (lv' := [(3, .int x44), (2, .ref (ad 55)), (1, .ref (ad 0)), (0, .ref b)]) hx hb dL_law_1357 hl (k := 0) rfl (by rw [ex44]; rfl) (by decide) rfl (fun ls hl => ?_)
      refine lv_goto (tgt := 18) hx hb dL_law_1360 (by decide) ?_
      have I45 : jI2 σ31 := jI2_fr (congrFun (f33 2 (by decide)) 0) (congrFun (f33 2 (by decide)) 1) (congrFun (f33 2 (by decide)) 2) (congrFun (f33 2 (by decide)) 3) (f33 6 (by decide)) I17
      have I46 : jI9 σ31 := jI9_fr ((congrFun (f33 9 (by decide)) 0).trans (congrFun (f15 9 (by decide)) 0)) ((f33 10 (by decide)).trans (f15 10 (by decide))) ((f33 11 (by decide)).trans (f15 11 (by decide))) hI9
      have I47 : jI12 σ31 := jI12_fr ((congrFun (f33 12 (by decide)) 0).trans (congrFun (f15 12 (by decide)) 0)) ((f33 13 (by decide)).trans (f15 13 (by decide))) hI12
      have I48 : jI16 σ31 := jI16_fr ((congrFun (f33 16 (by decide)) 0).trans (congrFun (f15 16 (by decide)) 0)) ((congrFun (f33 16 (by decide)) 1).trans (congrFun (f15 16 (by decide)) 1)) ((congrFun (f33 16 (by decide)) 2).trans (congrFun (f15 16 (by decide)) 2)) ((f33 17 (by decide)).trans (f15 17 (by decide))) hI16
      have I49 : jI18 σ31 := jI18_fr ((congrFun (f33 18 (by decide)) 0).trans (congrFun (f15 18 (by decide)) 0)) ((f33 19 (by decide)).trans (f15 19 (by decide))) hI18
      have I50 : jI22 σ31 := jI22_fr ((congrFun (f33 22 (by decide)) 0).trans (congrFun (f15 22 (by decide)) 0)) ((f33 23 (by decide)).trans (f15 23 (by decide))) hI22
      have I51 : jI31 σ31 := jI31_fr ((congrFun (f33 31 (by decide)) 8).trans (congrFun (f15 31 (by decide)) 8)) ((f33 33 (by decide)).trans (f15 33 (by decide))) ((f33 36 (by decide)).trans (f15 36 (by decide))) hI31
      have I52 : jI38 σ31 := jI38_fr ((congrFun (f33 38 (by decide)) 0).trans (congrFun (f15 38 (by decide)) 0)) ((congrFun (f33 38 (by decide)) 1).trans (congrFun (f15 38 (by decide)) 1)) ((f33 39 (by decide)).trans (f15 39 (by decide))) hI38
      have I53 : jI43 σ31 := jI43_fr ((congrFun (f33 43 (by decide)) 8).trans (congrFun (f15 43 (by decide)) 8)) hI43
      have I54 : jI47 σ31 := jI47_fr ((congrFun (f33 47 (by decide)) 0).trans (congrFun (f15 47 (by decide)) 0)) ((f33 48 (by decide)).trans (f15 48 (by decide))) ((f33 49 (by decide)).trans (f15 49 (by decide))) hI47
      have I55 : jI50 σ31 := jI50_fr ((f33 52 (by decide)).trans (f15 52 (by decide))) hI50
      have I56 : jI102 σ31 := jI102_fr (f34 6 (by decide)) (f33 60 (by decide)) (f33 61 (by decide)) I27
      have I57 : jI103 σ31 := jI103_fr ((f34 9 (by decide)).trans (congrFun (f15 55 (by decide)) 9)) hI103
      have I58 : jI104 σ31 := jI104_fr ((f34 10 (by decide)).trans (congrFun (f15 55 (by decide)) 10)) ((f34 12 (by decide)).trans (congrFun (f15 55 (by decide)) 12)) ((f34 13 (by decide)).trans (congrFun (f15 55 (by decide)) 13)) ((f33 62 (by decide)).trans (f15 62 (by decide))) ((f33 67 (by decide)).trans (f15 67 (by decide))) hI104
      have I59 : jI105 σ31 := jI105_fr ((f34 15 (by decide)).trans (congrFun (f15 55 (by decide)) 15)) ((f33 65 (by decide)).trans (f15 65 (by decide))) hI105
      have I60 : jI106 σ31 := jI106_fr ((f34 32 (by decide)).trans (congrFun (f15 55 (by decide)) 32)) ((f33 70 (by decide)).trans (f15 70 (by decide))) ((f33 71 (by decide)).trans (f15 71 (by decide))) ((f33 72 (by decide)).trans (f15 72 (by decide))) hI106
      have I61 : jI107 σ31 := jI107_fr ((f34 12 (by decide)).trans (congrFun (f15 55 (by decide)) 12)) ((f34 47 (by decide)).trans (congrFun (f15 55 (by decide)) 47)) ((f33 80 (by decide)).trans (f15 80 (by decide))) hI107
      have I62 : jI109 σ31 := jI109_fr ((f34 50 (by decide)).trans (congrFun (f15 55 (by decide)) 50)) hI109
      have I63 : jI110 σ31 := jI110_fr ((f33 86 (by decide)).trans (f15 86 (by decide))) ((f33 87 (by decide)).trans (f15 87 (by decide))) hI110
      have I64 : jI111 σ31 := jI111_fr ((f33 79 (by decide)).trans (f15 79 (by decide))) hI111
      have I65 : jI119 σ31 := jI119_fr ((f33 68 (by decide)).trans (f15 68 (by decide))) hI119
      have p66 : jKept σ31 := jKept.fr ((f33 75 (by decide)).trans (f15 75 (by decide))) ((f33 76 (by decide)).trans (f15 76 (by decide))) ((f33 77 (by decide)).trans (f15 77 (by decide))) hs_jKept
      have p67 : jBook σ31 := jBook.fr ((f34 47 (by decide)).trans (congrFun (f15 55 (by decide)) 47)) ((f34 10 (by decide)).trans (congrFun (f15 55 (by decide)) 10)) ((f33 81 (by decide)).trans (f15 81 (by decide))) hs_jBook
      have z68 : (σ31 38 0).toInt = (σ 38 0).toInt := (congrArg Int32.toInt (show σ31 38 0 = (σ 38 0) from ((congrFun (f33 38 (by decide)) 0).trans (congrFun (f15 38 (by decide)) 0))))
      have z69 : (σ31 55 32).toInt = (σ 55 32).toInt := (congrArg Int32.toInt (show σ31 55 32 = (σ 55 32) from ((f34 32 (by decide)).trans (congrFun (f15 55 (by decide)) 32))))
      exact ih x44 σ31 τ _ _ ls (by have h9 := tx44; omega) ⟨I45, I46, I47, I48, I49, I50, I51, I52, I53, I54, I55, I35, I56, I57, I58, I59, I60, I61, I62, I63, I64, I65, p66, p67, (by omega), (show jShP (σ31 51) (σ31 52) (σ31 53) (σ31 86) (σ31 87) (σ31 55 32).toInt by rw [show σ31 51 = σ 51 from ((f33 51 (by decide)).trans (f15 51 (by decide))), show σ31 52 = σ 52 from ((f33 52 (by decide)).trans (f15 52 (by decide))), show σ31 53 = σ 53 from ((f33 53 (by decide)).trans (f15 53 (by decide))), show σ31 86 = σ 86 from ((f33 86 (by decide)).trans (f15 86 (by decide))), show σ31 87 = σ 87 from ((f33 87 (by decide)).trans (f15 87 (by decide)))]; exact (hr0.up (by omega) (by omega))), (show jKd (σ31 39) (σ31 70) (σ31 55 32).toInt by rw [show σ31 39 = σ 39 from ((f33 39 (by decide)).trans (f15 39 (by decide))), show σ31 70 = σ 70 from ((f33 70 (by decide)).trans (f15 70 (by decide))), show (σ31 55 32).toInt = (σ 55 32).toInt from by omega]; exact hr1)⟩ hP hS (lv_sub hl [0, 1, 2, 3] rfl)
    · obtain ⟨q77, k70, k71, k72, k73, k74, k75, k76⟩ := h38
      refine lv_pop hx hb dL_law_769 rfl ?_
      refine lv_goto (tgt := 1357) hx hb dL_law_770 (by decide) ?_
      obtain ⟨x78, ex78⟩ : ∃ y : Int32, y = x0 + 6 := ⟨_, rfl⟩
      have tx78 : x78.toInt = x0.toInt + 6 := (jadd ex78 rfl jz_6 (by omega) (by omega)).trans (by omega)
      refine lv_iinc (v := x78) (lv' := [(3, .int x78), (2, .ref (ad 55)), (1, .ref (ad 0)), (0, .ref b)]) hx hb dL_law_1357 hl (k := 0) rfl (by rw [ex78]; rfl) (by decide) rfl (fun ls hl => ?_)
      refine lv_goto (tgt := 18) hx hb dL_law_1360 (by decide) ?_
      have I79 : jI2 σ31 := jI2_fr (congrFun (f33 2 (by decide)) 0) (congrFun (f33 2 (by decide)) 1) (congrFun (f33 2 (by decide)) 2) (congrFun (f33 2 (by decide)) 3) (f33 6 (by decide)) I17
      have I80 : jI9 σ31 := jI9_fr ((congrFun (f33 9 (by decide)) 0).trans (congrFun (f15 9 (by decide)) 0)) ((f33 10 (by decide)).trans (f15 10 (by decide))) ((f33 11 (by decide)).trans (f15 11 (by decide))) hI9
      have I81 : jI12 σ31 := jI12_fr ((congrFun (f33 12 (by decide)) 0).trans (congrFun (f15 12 (by decide)) 0)) ((f33 13 (by decide)).trans (f15 13 (by decide))) hI12
      have I82 : jI16 σ31 := jI16_fr ((congrFun (f33 16 (by decide)) 0).trans (congrFun (f15 16 (by decide)) 0)) ((congrFun (f33 16 (by decide)) 1).trans (congrFun (f15 16 (by decide)) 1)) ((congrFun (f33 16 (by decide)) 2).trans (congrFun (f15 16 (by decide)) 2)) ((f33 17 (by decide)).trans (f15 17 (by decide))) hI16
      have I83 : jI18 σ31 := jI18_fr ((congrFun (f33 18 (by decide)) 0).trans (congrFun (f15 18 (by decide)) 0)) ((f33 19 (by decide)).trans (f15 19 (by decide))) hI18
      have I84 : jI22 σ31 := jI22_fr ((congrFun (f33 22 (by decide)) 0).trans (congrFun (f15 22 (by decide)) 0)) ((f33 23 (by decide)).trans (f15 23 (by decide))) hI22
      have I85 : jI31 σ31 := jI31_fr ((congrFun (f33 31 (by decide)) 8).trans (congrFun (f15 31 (by decide)) 8)) ((f33 33 (by decide)).trans (f15 33 (by decide))) ((f33 36 (by decide)).trans (f15 36 (by decide))) hI31
      have I86 : jI38 σ31 := jI38_fr ((congrFun (f33 38 (by decide)) 0).trans (congrFun (f15 38 (by decide)) 0)) ((congrFun (f33 38 (by decide)) 1).trans (congrFun (f15 38 (by decide)) 1)) ((f33 39 (by decide)).trans (f15 39 (by decide))) hI38
      have I87 : jI43 σ31 := jI43_fr ((congrFun (f33 43 (by decide)) 8).trans (congrFun (f15 43 (by decide)) 8)) hI43
      have I88 : jI47 σ31 := jI47_fr ((congrFun (f33 47 (by decide)) 0).trans (congrFun (f15 47 (by decide)) 0)) ((f33 48 (by decide)).trans (f15 48 (by decide))) ((f33 49 (by decide)).trans (f15 49 (by decide))) hI47
      have I89 : jI50 σ31 := jI50_fr ((f33 52 (by decide)).trans (f15 52 (by decide))) hI50
      have I90 : jI102 σ31 := jI102_fr (f34 6 (by decide)) (f33 60 (by decide)) (f33 61 (by decide)) I27
      have I91 : jI103 σ31 := jI103_fr ((f34 9 (by decide)).trans (congrFun (f15 55 (by decide)) 9)) hI103
      have I92 : jI104 σ31 := jI104_fr ((f34 10 (by decide)).trans (congrFun (f15 55 (by decide)) 10)) ((f34 12 (by decide)).trans (congrFun (f15 55 (by decide)) 12)) ((f34 13 (by decide)).trans (congrFun (f15 55 (by decide)) 13)) ((f33 62 (by decide)).trans (f15 62 (by decide))) ((f33 67 (by decide)).trans (f15 67 (by decide))) hI104
      have I93 : jI105 σ31 := jI105_fr ((f34 15 (by decide)).trans (congrFun (f15 55 (by decide)) 15)) ((f33 65 (by decide)).trans (f15 65 (by decide))) hI105
      have I94 : jI106 σ31 := jI106_fr ((f34 32 (by decide)).trans (congrFun (f15 55 (by decide)) 32)) ((f33 70 (by decide)).trans (f15 70 (by decide))) ((f33 71 (by decide)).trans (f15 71 (by decide))) ((f33 72 (by decide)).trans (f15 72 (by decide))) hI106
      have I95 : jI107 σ31 := jI107_fr ((f34 12 (by decide)).trans (congrFun (f15 55 (by decide)) 12)) ((f34 47 (by decide)).trans (congrFun (f15 55 (by decide)) 47)) ((f33 80 (by decide)).trans (f15 80 (by decide))) hI107
      have I96 : jI109 σ31 := jI109_fr ((f34 50 (by decide)).trans (congrFun (f15 55 (by decide)) 50)) hI109
      have I97 : jI110 σ31 := jI110_fr ((f33 86 (by decide)).trans (f15 86 (by decide))) ((f33 87 (by decide)).trans (f15 87 (by decide))) hI110
      have I98 : jI111 σ31 := jI111_fr ((f33 79 (by decide)).trans (f15 79 (by decide))) hI111
      have I99 : jI119 σ31 := jI119_fr ((f33 68 (by decide)).trans (f15 68 (by decide))) hI119
      have p100 : jKept σ31 := jKept.fr ((f33 75 (by decide)).trans (f15 75 (by decide))) ((f33 76 (by decide)).trans (f15 76 (by decide))) ((f33 77 (by decide)).trans (f15 77 (by decide))) hs_jKept
      have p101 : jBook σ31 := jBook.fr ((f34 47 (by decide)).trans (congrFun (f15 55 (by decide)) 47)) ((f34 10 (by decide)).trans (congrFun (f15 55 (by decide)) 10)) ((f33 81 (by decide)).trans (f15 81 (by decide))) hs_jBook
      have z102 : (σ31 38 0).toInt = (σ 38 0).toInt := (congrArg Int32.toInt (show σ31 38 0 = (σ 38 0) from ((congrFun (f33 38 (by decide)) 0).trans (congrFun (f15 38 (by decide)) 0))))
      have z103 : (σ31 55 32).toInt = (σ 55 32).toInt := (congrArg Int32.toInt (show σ31 55 32 = (σ 55 32) from ((f34 32 (by decide)).trans (congrFun (f15 55 (by decide)) 32))))
      exact ih x78 σ31 τ _ _ ls (by have h9 := tx78; omega) ⟨I79, I80, I81, I82, I83, I84, I85, I86, I87, I88, I89, I35, I90, I91, I92, I93, I94, I95, I96, I97, I98, I99, p100, p101, (by omega), (show jShP (σ31 51) (σ31 52) (σ31 53) (σ31 86) (σ31 87) (σ31 55 32).toInt by rw [show σ31 51 = σ 51 from ((f33 51 (by decide)).trans (f15 51 (by decide))), show σ31 52 = σ 52 from ((f33 52 (by decide)).trans (f15 52 (by decide))), show σ31 53 = σ 53 from ((f33 53 (by decide)).trans (f15 53 (by decide))), show σ31 86 = σ 86 from ((f33 86 (by decide)).trans (f15 86 (by decide))), show σ31 87 = σ 87 from ((f33 87 (by decide)).trans (f15 87 (by decide)))]; exact (hr0.up (by omega) (by omega))), (show jKd (σ31 39) (σ31 70) (σ31 55 32).toInt by rw [show σ31 39 = σ 39 from ((f33 39 (by decide)).trans (f15 39 (by decide))), show σ31 70 = σ 70 from ((f33 70 (by decide)).trans (f15 70 (by decide))), show (σ31 55 32).toInt = (σ 55 32).toInt from by omega]; exact hr1)⟩ hP hS (lv_sub hl [0, 1, 2, 3] rfl)
  · obtain ⟨q111, k104, k105, k106, k107, k108, k109, k110⟩ := h20
    refine lv_pop hx hb dL_law_754 rfl ?_
    refine lv_aload_n hx hb dL_law_755 rfl (lv_at hl 1 rfl) ?_
    refine lv_aload_n hx hb dL_law_756 rfl (lv_at hl 3 rfl) ?_
    refine lv_iload_n hx hb dL_law_757 rfl (lv_at hl 0 rfl) ?_
    refine lv_iconst (v := 1) hx hb dL_law_758 (by decide) ?_
    refine lv_iadd hx hb dL_law_759 ?_
    refine jtopr ex9.symm ?_
    refine va_sld hx hb hX hbl hbA hS (jin tx9 (by omega) (by omega)) dL_law_760 ?_
    refine lv_aload_n hx hb dL_law_761 rfl (lv_at hl 3 rfl) ?_
    refine lv_iload_n hx hb dL_law_762 rfl (lv_at hl 0 rfl) ?_
    refine lv_iconst (v := 2) hx hb dL_law_763 (by decide) ?_
    refine lv_iadd hx hb dL_law_764 ?_
    refine jtopr ex11.symm ?_
    refine va_sld hx hb hX hbl hbA hS (jin tx11 (by omega) (by omega)) dL_law_765 ?_
    have I112 : jI101 σ13 := jI101_fr (congrFun (f15 55 (by decide)) 4) (congrFun (f15 55 (by decide)) 5) (f15 56 (by decide)) (f15 57 (by decide)) (f15 58 (by decide)) (f15 59 (by decide)) hI101
    have I113 : jI102 σ13 := jI102_fr (congrFun (f15 55 (by decide)) 6) (f15 60 (by decide)) (f15 61 (by decide)) hI102
    have z114 : (σ13 55 6).toInt = (σ 55 6).toInt := (congrArg Int32.toInt (show σ13 55 6 = (σ 55 6) from (congrFun (f15 55 (by decide)) 6)))
    have z115 : (σ13 55 5).toInt = (σ 55 5).toInt := (congrArg Int32.toInt (show σ13 55 5 = (σ 55 5) from (congrFun (f15 55 (by decide)) 5)))
    have z116 : (σ13 55 4).toInt = (σ 55 4).toInt := (congrArg Int32.toInt (show σ13 55 4 = (σ 55 4) from (congrFun (f15 55 (by decide)) 4)))
    refine jcallV (As := [.int (xs x9.toNatClampNeg), .int (xs x11.toNatClampNeg)]) (rest := []) ⟨hx, hb, hml, hown, hts⟩ hK hP hA hS hZ (c_X12_learn l D cI cL ad zz hJ σ13 τ (xs x9.toNatClampNeg) ((xs x9.toNatClampNeg).toInt) rfl (xs x11.toNatClampNeg) ((xs x11.toNatClampNeg).toInt) rfl I112 I113) cw_RL_92 (jc_55 cI cL ad σ13 τ) rfl ⟨Nat.le_of_ble_eq_true rfl, Nat.le_of_ble_eq_true rfl⟩ rfl rfl rfl hl.1 rfl (Nat.le_of_ble_eq_true rfl) dL_law_766 ⟨Nat.le_of_ble_eq_true rfl, Nat.le_of_ble_eq_true rfl⟩ (fun r118 σ117 τ117 H locs h117 hP hS => ?_)
    obtain ⟨rfl, f119, f120, I121, h117⟩ := h117
    rcases h117 with h123 | h124
    · obtain ⟨q129, k125, k126, k127, k128⟩ := h123
      have q129 := q129.symm
      subst q129
      refine lv_pop hx hb dL_law_769 rfl ?_
      refine lv_goto (tgt := 1357) hx hb dL_law_770 (by decide) ?_
      obtain ⟨x130, ex130⟩ : ∃ y : Int32, y = x0 + 6 := ⟨_, rfl⟩
      have tx130 : x130.toInt = x0.toInt + 6 := (jadd ex130 rfl jz_6 (by omega) (by omega)).trans (by omega)
      refine lv_iinc (v := x130) (lv' := [(3, .int x130), (2, .ref (ad 55)), (1, .ref (ad 0)), (0, .ref b)]) hx hb dL_law_1357 hl (k := 0) rfl (by rw [ex130]; rfl) (by decide) rfl (fun ls hl => ?_)
      refine lv_goto (tgt := 18) hx hb dL_law_1360 (by decide) ?_
      have I131 : jI2 σ117 := jI2_fr (congrFun (f119 2 (by decide)) 0) (congrFun (f119 2 (by decide)) 1) (congrFun (f119 2 (by decide)) 2) (congrFun (f119 2 (by decide)) 3) (f119 6 (by decide)) I17
      have I132 : jI9 σ117 := jI9_fr ((congrFun (f119 9 (by decide)) 0).trans (congrFun (f15 9 (by decide)) 0)) ((f119 10 (by decide)).trans (f15 10 (by decide))) ((f119 11 (by decide)).trans (f15 11 (by decide))) hI9
      have I133 : jI12 σ117 := jI12_fr ((congrFun (f119 12 (by decide)) 0).trans (congrFun (f15 12 (by decide)) 0)) ((f119 13 (by decide)).trans (f15 13 (by decide))) hI12
      have I134 : jI16 σ117 := jI16_fr ((congrFun (f119 16 (by decide)) 0).trans (congrFun (f15 16 (by decide)) 0)) ((congrFun (f119 16 (by decide)) 1).trans (congrFun (f15 16 (by decide)) 1)) ((congrFun (f119 16 (by decide)) 2).trans (congrFun (f15 16 (by decide)) 2)) ((f119 17 (by decide)).trans (f15 17 (by decide))) hI16
      have I135 : jI18 σ117 := jI18_fr ((congrFun (f119 18 (by decide)) 0).trans (congrFun (f15 18 (by decide)) 0)) ((f119 19 (by decide)).trans (f15 19 (by decide))) hI18
      have I136 : jI22 σ117 := jI22_fr ((congrFun (f119 22 (by decide)) 0).trans (congrFun (f15 22 (by decide)) 0)) ((f119 23 (by decide)).trans (f15 23 (by decide))) hI22
      have I137 : jI31 σ117 := jI31_fr ((congrFun (f119 31 (by decide)) 8).trans (congrFun (f15 31 (by decide)) 8)) ((f119 33 (by decide)).trans (f15 33 (by decide))) ((f119 36 (by decide)).trans (f15 36 (by decide))) hI31
      have I138 : jI38 σ117 := jI38_fr ((congrFun (f119 38 (by decide)) 0).trans (congrFun (f15 38 (by decide)) 0)) ((congrFun (f119 38 (by decide)) 1).trans (congrFun (f15 38 (by decide)) 1)) ((f119 39 (by decide)).trans (f15 39 (by decide))) hI38
      have I139 : jI43 σ117 := jI43_fr ((congrFun (f119 43 (by decide)) 8).trans (congrFun (f15 43 (by decide)) 8)) hI43
      have I140 : jI47 σ117 := jI47_fr ((congrFun (f119 47 (by decide)) 0).trans (congrFun (f15 47 (by decide)) 0)) ((f119 48 (by decide)).trans (f15 48 (by decide))) ((f119 49 (by decide)).trans (f15 49 (by decide))) hI47
      have I141 : jI50 σ117 := jI50_fr ((f119 52 (by decide)).trans (f15 52 (by decide))) hI50
      have I142 : jI102 σ117 := jI102_fr (f120 6 (by decide)) (f119 60 (by decide)) (f119 61 (by decide)) I113
      have I143 : jI103 σ117 := jI103_fr ((f120 9 (by decide)).trans (congrFun (f15 55 (by decide)) 9)) hI103
      have I144 : jI104 σ117 := jI104_fr ((f120 10 (by decide)).trans (congrFun (f15 55 (by decide)) 10)) ((f120 12 (by decide)).trans (congrFun (f15 55 (by decide)) 12)) ((f120 13 (by decide)).trans (congrFun (f15 55 (by decide)) 13)) ((f119 62 (by decide)).trans (f15 62 (by decide))) ((f119 67 (by decide)).trans (f15 67 (by decide))) hI104
      have I145 : jI105 σ117 := jI105_fr ((f120 15 (by decide)).trans (congrFun (f15 55 (by decide)) 15)) ((f119 65 (by decide)).trans (f15 65 (by decide))) hI105
      have I146 : jI106 σ117 := jI106_fr ((f120 32 (by decide)).trans (congrFun (f15 55 (by decide)) 32)) ((f119 70 (by decide)).trans (f15 70 (by decide))) ((f119 71 (by decide)).trans (f15 71 (by decide))) ((f119 72 (by decide)).trans (f15 72 (by decide))) hI106
      have I147 : jI107 σ117 := jI107_fr ((f120 12 (by decide)).trans (congrFun (f15 55 (by decide)) 12)) ((f120 47 (by decide)).trans (congrFun (f15 55 (by decide)) 47)) ((f119 80 (by decide)).trans (f15 80 (by decide))) hI107
      have I148 : jI109 σ117 := jI109_fr ((f120 50 (by decide)).trans (congrFun (f15 55 (by decide)) 50)) hI109
      have I149 : jI110 σ117 := jI110_fr ((f119 86 (by decide)).trans (f15 86 (by decide))) ((f119 87 (by decide)).trans (f15 87 (by decide))) hI110
      have I150 : jI111 σ117 := jI111_fr ((f119 79 (by decide)).trans (f15 79 (by decide))) hI111
      have I151 : jI119 σ117 := jI119_fr ((f119 68 (by decide)).trans (f15 68 (by decide))) hI119
      have p152 : jKept σ117 := jKept.fr ((f119 75 (by decide)).trans (f15 75 (by decide))) ((f119 76 (by decide)).trans (f15 76 (by decide))) ((f119 77 (by decide)).trans (f15 77 (by decide))) hs_jKept
      have p153 : jBook σ117 := jBook.fr ((f120 47 (by decide)).trans (congrFun (f15 55 (by decide)) 47)) ((f120 10 (by decide)).trans (congrFun (f15 55 (by decide)) 10)) ((f119 81 (by decide)).trans (f15 81 (by decide))) hs_jBook
      have z154 : (σ117 38 0).toInt = (σ 38 0).toInt := (congrArg Int32.toInt (show σ117 38 0 = (σ 38 0) from ((congrFun (f119 38 (by decide)) 0).trans (congrFun (f15 38 (by decide)) 0))))
      have z155 : (σ117 55 32).toInt = (σ 55 32).toInt := (congrArg Int32.toInt (show σ117 55 32 = (σ 55 32) from ((f120 32 (by decide)).trans (congrFun (f15 55 (by decide)) 32))))
      exact ih x130 σ117 τ _ _ ls (by have h9 := tx130; omega) ⟨I131, I132, I133, I134, I135, I136, I137, I138, I139, I140, I141, I121, I142, I143, I144, I145, I146, I147, I148, I149, I150, I151, p152, p153, (by omega), (show jShP (σ117 51) (σ117 52) (σ117 53) (σ117 86) (σ117 87) (σ117 55 32).toInt by rw [show σ117 51 = σ 51 from ((f119 51 (by decide)).trans (f15 51 (by decide))), show σ117 52 = σ 52 from ((f119 52 (by decide)).trans (f15 52 (by decide))), show σ117 53 = σ 53 from ((f119 53 (by decide)).trans (f15 53 (by decide))), show σ117 86 = σ 86 from ((f119 86 (by decide)).trans (f15 86 (by decide))), show σ117 87 = σ 87 from ((f119 87 (by decide)).trans (f15 87 (by decide)))]; exact (hr0.up (by omega) (by omega))), (show jKd (σ117 39) (σ117 70) (σ117 55 32).toInt by rw [show σ117 39 = σ 39 from ((f119 39 (by decide)).trans (f15 39 (by decide))), show σ117 70 = σ 70 from ((f119 70 (by decide)).trans (f15 70 (by decide))), show (σ117 55 32).toInt = (σ 55 32).toInt from by omega]; exact hr1)⟩ hP hS (lv_sub hl [0, 1, 2, 3] rfl)
    · obtain ⟨q163, k156, k157, k158, k159, k160, k161, k162⟩ := h124
      refine lv_pop hx hb dL_law_769 rfl ?_
      refine lv_goto (tgt := 1357) hx hb dL_law_770 (by decide) ?_
      obtain ⟨x164, ex164⟩ : ∃ y : Int32, y = x0 + 6 := ⟨_, rfl⟩
      have tx164 : x164.toInt = x0.toInt + 6 := (jadd ex164 rfl jz_6 (by omega) (by omega)).trans (by omega)
      refine lv_iinc (v := x164) (lv' := [(3, .int x164), (2, .ref (ad 55)), (1, .ref (ad 0)), (0, .ref b)]) hx hb dL_law_1357 hl (k := 0) rfl (by rw [ex164]; rfl) (by decide) rfl (fun ls hl => ?_)
      refine lv_goto (tgt := 18) hx hb dL_law_1360 (by decide) ?_
      have I165 : jI2 σ117 := jI2_fr (congrFun (f119 2 (by decide)) 0) (congrFun (f119 2 (by decide)) 1) (congrFun (f119 2 (by decide)) 2) (congrFun (f119 2 (by decide)) 3) (f119 6 (by decide)) I17
      have I166 : jI9 σ117 := jI9_fr ((congrFun (f119 9 (by decide)) 0).trans (congrFun (f15 9 (by decide)) 0)) ((f119 10 (by decide)).trans (f15 10 (by decide))) ((f119 11 (by decide)).trans (f15 11 (by decide))) hI9
      have I167 : jI12 σ117 := jI12_fr ((congrFun (f119 12 (by decide)) 0).trans (congrFun (f15 12 (by decide)) 0)) ((f119 13 (by decide)).trans (f15 13 (by decide))) hI12
      have I168 : jI16 σ117 := jI16_fr ((congrFun (f119 16 (by decide)) 0).trans (congrFun (f15 16 (by decide)) 0)) ((congrFun (f119 16 (by decide)) 1).trans (congrFun (f15 16 (by decide)) 1)) ((congrFun (f119 16 (by decide)) 2).trans (congrFun (f15 16 (by decide)) 2)) ((f119 17 (by decide)).trans (f15 17 (by decide))) hI16
      have I169 : jI18 σ117 := jI18_fr ((congrFun (f119 18 (by decide)) 0).trans (congrFun (f15 18 (by decide)) 0)) ((f119 19 (by decide)).trans (f15 19 (by decide))) hI18
      have I170 : jI22 σ117 := jI22_fr ((congrFun (f119 22 (by decide)) 0).trans (congrFun (f15 22 (by decide)) 0)) ((f119 23 (by decide)).trans (f15 23 (by decide))) hI22
      have I171 : jI31 σ117 := jI31_fr ((congrFun (f119 31 (by decide)) 8).trans (congrFun (f15 31 (by decide)) 8)) ((f119 33 (by decide)).trans (f15 33 (by decide))) ((f119 36 (by decide)).trans (f15 36 (by decide))) hI31
      have I172 : jI38 σ117 := jI38_fr ((congrFun (f119 38 (by decide)) 0).trans (congrFun (f15 38 (by decide)) 0)) ((congrFun (f119 38 (by decide)) 1).trans (congrFun (f15 38 (by decide)) 1)) ((f119 39 (by decide)).trans (f15 39 (by decide))) hI38
      have I173 : jI43 σ117 := jI43_fr ((congrFun (f119 43 (by decide)) 8).trans (congrFun (f15 43 (by decide)) 8)) hI43
      have I174 : jI47 σ117 := jI47_fr ((congrFun (f119 47 (by decide)) 0).trans (congrFun (f15 47 (by decide)) 0)) ((f119 48 (by decide)).trans (f15 48 (by decide))) ((f119 49 (by decide)).trans (f15 49 (by decide))) hI47
      have I175 : jI50 σ117 := jI50_fr ((f119 52 (by decide)).trans (f15 52 (by decide))) hI50
      have I176 : jI102 σ117 := jI102_fr (f120 6 (by decide)) (f119 60 (by decide)) (f119 61 (by decide)) I113
      have I177 : jI103 σ117 := jI103_fr ((f120 9 (by decide)).trans (congrFun (f15 55 (by decide)) 9)) hI103
      have I178 : jI104 σ117 := jI104_fr ((f120 10 (by decide)).trans (congrFun (f15 55 (by decide)) 10)) ((f120 12 (by decide)).trans (congrFun (f15 55 (by decide)) 12)) ((f120 13 (by decide)).trans (congrFun (f15 55 (by decide)) 13)) ((f119 62 (by decide)).trans (f15 62 (by decide))) ((f119 67 (by decide)).trans (f15 67 (by decide))) hI104
      have I179 : jI105 σ117 := jI105_fr ((f120 15 (by decide)).trans (congrFun (f15 55 (by decide)) 15)) ((f119 65 (by decide)).trans (f15 65 (by decide))) hI105
      have I180 : jI106 σ117 := jI106_fr ((f120 32 (by decide)).trans (congrFun (f15 55 (by decide)) 32)) ((f119 70 (by decide)).trans (f15 70 (by decide))) ((f119 71 (by decide)).trans (f15 71 (by decide))) ((f119 72 (by decide)).trans (f15 72 (by decide))) hI106
      have I181 : jI107 σ117 := jI107_fr ((f120 12 (by decide)).trans (congrFun (f15 55 (by decide)) 12)) ((f120 47 (by decide)).trans (congrFun (f15 55 (by decide)) 47)) ((f119 80 (by decide)).trans (f15 80 (by decide))) hI107
      have I182 : jI109 σ117 := jI109_fr ((f120 50 (by decide)).trans (congrFun (f15 55 (by decide)) 50)) hI109
      have I183 : jI110 σ117 := jI110_fr ((f119 86 (by decide)).trans (f15 86 (by decide))) ((f119 87 (by decide)).trans (f15 87 (by decide))) hI110
      have I184 : jI111 σ117 := jI111_fr ((f119 79 (by decide)).trans (f15 79 (by decide))) hI111
      have I185 : jI119 σ117 := jI119_fr ((f119 68 (by decide)).trans (f15 68 (by decide))) hI119
      have p186 : jKept σ117 := jKept.fr ((f119 75 (by decide)).trans (f15 75 (by decide))) ((f119 76 (by decide)).trans (f15 76 (by decide))) ((f119 77 (by decide)).trans (f15 77 (by decide))) hs_jKept
      have p187 : jBook σ117 := jBook.fr ((f120 47 (by decide)).trans (congrFun (f15 55 (by decide)) 47)) ((f120 10 (by decide)).trans (congrFun (f15 55 (by decide)) 10)) ((f119 81 (by decide)).trans (f15 81 (by decide))) hs_jBook
      have z188 : (σ117 38 0).toInt = (σ 38 0).toInt := (congrArg Int32.toInt (show σ117 38 0 = (σ 38 0) from ((congrFun (f119 38 (by decide)) 0).trans (congrFun (f15 38 (by decide)) 0))))
      have z189 : (σ117 55 32).toInt = (σ 55 32).toInt := (congrArg Int32.toInt (show σ117 55 32 = (σ 55 32) from ((f120 32 (by decide)).trans (congrFun (f15 55 (by decide)) 32))))
      exact ih x164 σ117 τ _ _ ls (by have h9 := tx164; omega) ⟨I165, I166, I167, I168, I169, I170, I171, I172, I173, I174, I175, I121, I176, I177, I178, I179, I180, I181, I182, I183, I184, I185, p186, p187, (by omega), (show jShP (σ117 51) (σ117 52) (σ117 53) (σ117 86) (σ117 87) (σ117 55 32).toInt by rw [show σ117 51 = σ 51 from ((f119 51 (by decide)).trans (f15 51 (by decide))), show σ117 52 = σ 52 from ((f119 52 (by decide)).trans (f15 52 (by decide))), show σ117 53 = σ 53 from ((f119 53 (by decide)).trans (f15 53 (by decide))), show σ117 86 = σ 86 from ((f119 86 (by decide)).trans (f15 86 (by decide))), show σ117 87 = σ 87 from ((f119 87 (by decide)).trans (f15 87 (by decide)))]; exact (hr0.up (by omega) (by omega))), (show jKd (σ117 39) (σ117 70) (σ117 55 32).toInt by rw [show σ117 39 = σ 39 from ((f119 39 (by decide)).trans (f15 39 (by decide))), show σ117 70 = σ 70 from ((f119 70 (by decide)).trans (f15 70 (by decide))), show (σ117 55 32).toInt = (σ 55 32).toInt from by omega]; exact hr1)⟩ hP hS (lv_sub hl [0, 1, 2, 3] rfl)
