set_option maxHeartbeats 4000000 in
set_option maxRecDepth 100000 in
theorem law_case_0 {p : Program} {e : Env} {s : State} {m : MethodId} {below : List Frame} {meth : Method} {c : Code} (l : Launch) {b L : Nat} {xs : Nat → Int32} {D : va_G} {cI cL : ClassId} {ad zz : Nat → Nat} (C0 : lw_At p s m meth c b L xs) (hJ : jD ad) (hA : ∀ q, jA ad q → s.heap.size ≤ q) (hK : jK D cI cL s) (hZ : jZ zz (fun q : Nat => s.heap.size ≤ q) s s.heap) {x0 : Int32} (hx0 : 0 ≤ x0.toInt) (hxL : x0.toInt + 6 ≤ (L : Int)) (hL : L ≤ 384) {σ : Nat → Nat → Int32} {τ : Nat → Nat → Int64} {H : Heap} {locs : List Loc} (hS : va_S (fun q : Nat => s.heap.size ≤ q) s.heap H locs) {ls : Array Slot} (hAll : jAll σ τ) (hP : jH D cI cL ad σ τ H) (hl : lv_has ls 4 [(3, .int x0), (2, .ref (ad 55)), (1, .ref (ad 0)), (0, .ref b)]) (ih : ∀ (x1 : Int32) (σ : Nat → Nat → Int32) (τ : Nat → Nat → Int64) (H : Heap) (locs : List Loc) (ls : Array Slot), x1.toInt = x0.toInt + 6 → jAll σ τ → jH D cI cL ad σ τ H → va_S (fun q : Nat => s.heap.size ≤ q) s.heap H locs → lv_has ls 4 [(3, .int x1), (2, .ref (ad 55)), (1, .ref (ad 0)), (0, .ref b)] → W p l e room_1 s m #[Value.ref b] below meth c H locs 90 348600 (lw_Z below #[Value.ref b] s) (F0 m 18 ls [])) : W p l e room_1 s m #[Value.ref b] below meth c H locs 90 348600 (lw_Z below #[Value.ref b] s) (F0 m 196 ls []) := by
  obtain ⟨hx, hb, hr, hml, hown, hts0, hX, hbl, hlocks, hgv⟩ := C0
  have hts : ∀ w ∈ wsL_law, w.before #[Value.ref b] s = true := fun w h => hts0 w (wsL_law_in w h)
  have hbA : ¬ (fun q : Nat => s.heap.size ≤ q) b := Nat.not_le.mpr hbl
  have hown : s.vm.findClass RL = some m.cls := hown
  obtain ⟨hI2, hI9, hI12, hI16, hI18, hI22, hI31, hI38, hI43, hI47, hI50, hI101, hI102, hI103, hI104, hI105, hI106, hI107, hI109, hI110, hI111, hI119, hs_jKept, hs_jBook, ht0, ht1, hr0, hr1⟩ := hAll
  have hL9 : (L : Int) ≤ 384 := by omega
  obtain ⟨i1, i2, w3⟩ : (0 ≤ (σ 38 0).toInt ∧ (σ 38 0).toInt ≤ 20) ∧ (0 ≤ (σ 38 1).toInt ∧ (σ 38 1).toInt ≤ 1000) ∧ (∀ k : Nat, k < 20 → 0 ≤ (σ 39 k).toInt ∧ (σ 39 k).toInt ≤ 6) := id hI38
  obtain ⟨i4, w5, w6, w7⟩ : (0 ≤ (σ 55 32).toInt ∧ (σ 55 32).toInt ≤ 20) ∧ (∀ k : Nat, k < 20 → 0 ≤ (σ 70 k).toInt ∧ (σ 70 k).toInt ≤ 6) ∧ (∀ k : Nat, k < 20 → 0 ≤ (σ 71 k).toInt ∧ (σ 71 k).toInt ≤ 8) ∧ (∀ k : Nat, k < 160 → 0 ≤ (σ 72 k).toInt ∧ (σ 72 k).toInt ≤ 3) := id hI106
  refine lv_aload_n hx hb dL_law_196 rfl (lv_at hl 2 rfl) ?_
  refine lv_aload_n hx hb dL_law_197 rfl (lv_at hl 3 rfl) ?_
  refine lv_iload_n hx hb dL_law_198 rfl (lv_at hl 0 rfl) ?_
  refine lv_iconst (v := 1) hx hb dL_law_199 (by decide) ?_
  have g8 := jrg (rfl : x0.toInt = x0.toInt)
  refine lv_iadd hx hb dL_law_200 ?_
  refine lv_topi (fun x9 ex9 => ?_)
  have tx9 : x9.toInt = x0.toInt + 1 := (jadd ex9 rfl jz_1 (by omega) (by omega)).trans (by omega)
  refine va_sld hx hb hX hbl hbA hS (jin tx9 (by omega) (by omega)) dL_law_201 ?_
  have g10 := jrg (rfl : (xs x9.toNatClampNeg).toInt = (xs x9.toNatClampNeg).toInt)
  refine lv_aload_n hx hb dL_law_202 rfl (lv_at hl 3 rfl) ?_
  refine lv_iload_n hx hb dL_law_203 rfl (lv_at hl 0 rfl) ?_
  refine lv_iconst (v := 2) hx hb dL_law_204 (by decide) ?_
  refine lv_iadd hx hb dL_law_205 ?_
  refine lv_topi (fun x11 ex11 => ?_)
  have tx11 : x11.toInt = x0.toInt + 2 := (jadd ex11 rfl jz_2 (by omega) (by omega)).trans (by omega)
  refine va_sld hx hb hX hbl hbA hS (jin tx11 (by omega) (by omega)) dL_law_206 ?_
  have g12 := jrg (rfl : (xs x11.toNatClampNeg).toInt = (xs x11.toNatClampNeg).toInt)
  refine lv_aload_n hx hb dL_law_207 rfl (lv_at hl 3 rfl) ?_
  refine lv_iload_n hx hb dL_law_208 rfl (lv_at hl 0 rfl) ?_
  refine lv_iconst (v := 3) hx hb dL_law_209 (by decide) ?_
  refine lv_iadd hx hb dL_law_210 ?_
  refine lv_topi (fun x13 ex13 => ?_)
  have tx13 : x13.toInt = x0.toInt + 3 := (jadd ex13 rfl jz_3 (by omega) (by omega)).trans (by omega)
  refine va_sld hx hb hX hbl hbA hS (jin tx13 (by omega) (by omega)) dL_law_211 ?_
  have g14 := jrg (rfl : (xs x13.toNatClampNeg).toInt = (xs x13.toNatClampNeg).toInt)
  refine jcallV (As := [.int (xs x9.toNatClampNeg), .int (xs x11.toNatClampNeg), .int (xs x13.toNatClampNeg)]) (rest := []) ⟨hx, hb, hml, hown, hts⟩ hK hP hA hS hZ (c_X11_bowler l D cI cL ad zz hJ σ τ (xs x9.toNatClampNeg) ((xs x9.toNatClampNeg).toInt) rfl (xs x11.toNatClampNeg) ((xs x11.toNatClampNeg).toInt) rfl (xs x13.toNatClampNeg) ((xs x13.toNatClampNeg).toInt) rfl hI2) cw_RL_13 (jc_0 cI cL ad σ τ) rfl ⟨Nat.le_of_ble_eq_true rfl, Nat.le_of_ble_eq_true rfl⟩ rfl rfl rfl hl.1 rfl (Nat.le_of_ble_eq_true rfl) dL_law_212 ⟨Nat.le_of_ble_eq_true rfl, Nat.le_of_ble_eq_true rfl⟩ (fun r16 σ15 τ15 H locs h15 hP hS => ?_)
  obtain ⟨rfl, f17, f18, I19, h15⟩ := h15
  rcases h15 with h21 | h22 | h23
  · obtain ⟨q27, k24, k25, k26⟩ := h21
    have q27 := q27.symm
    subst q27
    refine lv_pop hx hb dL_law_215 rfl ?_
    refine lv_aload_n hx hb dL_law_216 rfl (lv_at hl 1 rfl) ?_
    refine lv_aload_n hx hb dL_law_217 rfl (lv_at hl 3 rfl) ?_
    refine lv_iload_n hx hb dL_law_218 rfl (lv_at hl 0 rfl) ?_
    refine lv_iconst (v := 1) hx hb dL_law_219 (by decide) ?_
    refine lv_iadd hx hb dL_law_220 ?_
    refine jtopr ex9.symm ?_
    refine va_sld hx hb hX hbl hbA hS (jin tx9 (by omega) (by omega)) dL_law_221 ?_
    refine lv_aload_n hx hb dL_law_222 rfl (lv_at hl 3 rfl) ?_
    refine lv_iload_n hx hb dL_law_223 rfl (lv_at hl 0 rfl) ?_
    refine lv_iconst (v := 2) hx hb dL_law_224 (by decide) ?_
    refine lv_iadd hx hb dL_law_225 ?_
    refine jtopr ex11.symm ?_
    refine va_sld hx hb hX hbl hbA hS (jin tx11 (by omega) (by omega)) dL_law_226 ?_
    refine lv_aload_n hx hb dL_law_227 rfl (lv_at hl 3 rfl) ?_
    refine lv_iload_n hx hb dL_law_228 rfl (lv_at hl 0 rfl) ?_
    refine lv_iconst (v := 3) hx hb dL_law_229 (by decide) ?_
    refine lv_iadd hx hb dL_law_230 ?_
    refine jtopr ex13.symm ?_
    refine va_sld hx hb hX hbl hbA hS (jin tx13 (by omega) (by omega)) dL_law_231 ?_
    have I28 : jI101 σ15 := jI101_fr (congrFun (f17 55 (by decide)) 4) (congrFun (f17 55 (by decide)) 5) (f17 56 (by decide)) (f17 57 (by decide)) (f17 58 (by decide)) (f17 59 (by decide)) hI101
    have I29 : jI102 σ15 := jI102_fr (congrFun (f17 55 (by decide)) 6) (f17 60 (by decide)) (f17 61 (by decide)) hI102
    have z30 : (σ15 55 6).toInt = (σ 55 6).toInt := (congrArg Int32.toInt (show σ15 55 6 = (σ 55 6) from (congrFun (f17 55 (by decide)) 6)))
    refine jcallV (As := [.int (xs x9.toNatClampNeg), .int (xs x11.toNatClampNeg), .int (xs x13.toNatClampNeg)]) (rest := []) ⟨hx, hb, hml, hown, hts⟩ hK hP hA hS hZ (c_X12_bowler l D cI cL ad zz hJ σ15 τ (xs x9.toNatClampNeg) ((xs x9.toNatClampNeg).toInt) rfl (xs x11.toNatClampNeg) ((xs x11.toNatClampNeg).toInt) rfl (xs x13.toNatClampNeg) ((xs x13.toNatClampNeg).toInt) rfl I28 I29) cw_RL_17 (jc_55 cI cL ad σ15 τ) rfl ⟨Nat.le_of_ble_eq_true rfl, Nat.le_of_ble_eq_true rfl⟩ rfl rfl rfl hl.1 rfl (Nat.le_of_ble_eq_true rfl) dL_law_232 ⟨Nat.le_of_ble_eq_true rfl, Nat.le_of_ble_eq_true rfl⟩ (fun r32 σ31 τ31 H locs h31 hP hS => ?_)
    obtain ⟨rfl, f33, f34, I35, I36, h31⟩ := h31
    rcases h31 with h38 | h39 | h40
    · obtain ⟨q44, k41, k42, k43⟩ := h38
      have q44 := q44.symm
      subst q44
      refine lv_pop hx hb dL_law_235 rfl ?_
      refine lv_goto (tgt := 1357) hx hb dL_law_236 (by decide) ?_
      obtain ⟨x45, ex45⟩ : ∃ y : Int32, y = x0 + 6 := ⟨_, rfl⟩
      have tx45 : x45.toInt = x0.toInt + 6 := (jadd ex45 rfl jz_6 (by omega) (by omega)).trans (by omega)
      refine lv_iinc (v := x45) (lv' := [(3, .int x45), (2, .ref (ad 55)), (1, .ref (ad 0)), (0, .ref b)]) hx hb dL_law_1357 hl (k := 0) rfl (by rw [ex45]; rfl) (by decide) rfl (fun ls hl => ?_)
      refine lv_goto (tgt := 18) hx hb dL_law_1360 (by decide) ?_
      have I46 : jI2 σ31 := jI2_fr (congrFun (f33 2 (by decide)) 0) (congrFun (f33 2 (by decide)) 1) (congrFun (f33 2 (by decide)) 2) (congrFun (f33 2 (by decide)) 3) (f33 6 (by decide)) I19
      have I47 : jI9 σ31 := jI9_fr ((congrFun (f33 9 (by decide)) 0).trans (congrFun (f17 9 (by decide)) 0)) ((f33 10 (by decide)).trans (f17 10 (by decide))) ((f33 11 (by decide)).trans (f17 11 (by decide))) hI9
      have I48 : jI12 σ31 := jI12_fr ((congrFun (f33 12 (by decide)) 0).trans (congrFun (f17 12 (by decide)) 0)) ((f33 13 (by decide)).trans (f17 13 (by decide))) hI12
      have I49 : jI16 σ31 := jI16_fr ((congrFun (f33 16 (by decide)) 0).trans (congrFun (f17 16 (by decide)) 0)) ((congrFun (f33 16 (by decide)) 1).trans (congrFun (f17 16 (by decide)) 1)) ((congrFun (f33 16 (by decide)) 2).trans (congrFun (f17 16 (by decide)) 2)) ((f33 17 (by decide)).trans (f17 17 (by decide))) hI16
      have I50 : jI18 σ31 := jI18_fr ((congrFun (f33 18 (by decide)) 0).trans (congrFun (f17 18 (by decide)) 0)) ((f33 19 (by decide)).trans (f17 19 (by decide))) hI18
      have I51 : jI22 σ31 := jI22_fr ((congrFun (f33 22 (by decide)) 0).trans (congrFun (f17 22 (by decide)) 0)) ((f33 23 (by decide)).trans (f17 23 (by decide))) hI22
      have I52 : jI31 σ31 := jI31_fr ((congrFun (f33 31 (by decide)) 8).trans (congrFun (f17 31 (by decide)) 8)) ((f33 33 (by decide)).trans (f17 33 (by decide))) ((f33 36 (by decide)).trans (f17 36 (by decide))) hI31
      have I53 : jI38 σ31 := jI38_fr ((congrFun (f33 38 (by decide)) 0).trans (congrFun (f17 38 (by decide)) 0)) ((congrFun (f33 38 (by decide)) 1).trans (congrFun (f17 38 (by decide)) 1)) ((f33 39 (by decide)).trans (f17 39 (by decide))) hI38
      have I54 : jI43 σ31 := jI43_fr ((congrFun (f33 43 (by decide)) 8).trans (congrFun (f17 43 (by decide)) 8)) hI43
      have I55 : jI47 σ31 := jI47_fr ((congrFun (f33 47 (by decide)) 0).trans (congrFun (f17 47 (by decide)) 0)) ((f33 48 (by decide)).trans (f17 48 (by decide))) ((f33 49 (by decide)).trans (f17 49 (by decide))) hI47
      have I56 : jI50 σ31 := jI50_fr ((f33 52 (by decide)).trans (f17 52 (by decide))) hI50
      have I57 : jI103 σ31 := jI103_fr ((f34 9 (by decide)).trans (congrFun (f17 55 (by decide)) 9)) hI103
      have I58 : jI104 σ31 := jI104_fr ((f34 10 (by decide)).trans (congrFun (f17 55 (by decide)) 10)) ((f34 12 (by decide)).trans (congrFun (f17 55 (by decide)) 12)) ((f34 13 (by decide)).trans (congrFun (f17 55 (by decide)) 13)) ((f33 62 (by decide)).trans (f17 62 (by decide))) ((f33 67 (by decide)).trans (f17 67 (by decide))) hI104
      have I59 : jI105 σ31 := jI105_fr ((f34 15 (by decide)).trans (congrFun (f17 55 (by decide)) 15)) ((f33 65 (by decide)).trans (f17 65 (by decide))) hI105
      have I60 : jI106 σ31 := jI106_fr ((f34 32 (by decide)).trans (congrFun (f17 55 (by decide)) 32)) ((f33 70 (by decide)).trans (f17 70 (by decide))) ((f33 71 (by decide)).trans (f17 71 (by decide))) ((f33 72 (by decide)).trans (f17 72 (by decide))) hI106
      have I61 : jI107 σ31 := jI107_fr ((f34 12 (by decide)).trans (congrFun (f17 55 (by decide)) 12)) ((f34 47 (by decide)).trans (congrFun (f17 55 (by decide)) 47)) ((f33 80 (by decide)).trans (f17 80 (by decide))) hI107
      have I62 : jI109 σ31 := jI109_fr ((f34 50 (by decide)).trans (congrFun (f17 55 (by decide)) 50)) hI109
      have I63 : jI110 σ31 := jI110_fr ((f33 86 (by decide)).trans (f17 86 (by decide))) ((f33 87 (by decide)).trans (f17 87 (by decide))) hI110
      have I64 : jI111 σ31 := jI111_fr ((f33 79 (by decide)).trans (f17 79 (by decide))) hI111
      have I65 : jI119 σ31 := jI119_fr ((f33 68 (by decide)).trans (f17 68 (by decide))) hI119
      have p66 : jKept σ31 := jKept.fr ((f33 75 (by decide)).trans (f17 75 (by decide))) ((f33 76 (by decide)).trans (f17 76 (by decide))) ((f33 77 (by decide)).trans (f17 77 (by decide))) hs_jKept
      have p67 : jBook σ31 := jBook.fr ((f34 47 (by decide)).trans (congrFun (f17 55 (by decide)) 47)) ((f34 10 (by decide)).trans (congrFun (f17 55 (by decide)) 10)) ((f33 81 (by decide)).trans (f17 81 (by decide))) hs_jBook
      have z68 : (σ31 38 0).toInt = (σ 38 0).toInt := (congrArg Int32.toInt (show σ31 38 0 = (σ 38 0) from ((congrFun (f33 38 (by decide)) 0).trans (congrFun (f17 38 (by decide)) 0))))
      have z69 : (σ31 55 32).toInt = (σ 55 32).toInt := (congrArg Int32.toInt (show σ31 55 32 = (σ 55 32) from ((f34 32 (by decide)).trans (congrFun (f17 55 (by decide)) 32))))
      have z70 : (σ31 38 1).toInt = (σ 38 1).toInt := (congrArg Int32.toInt (show σ31 38 1 = (σ 38 1) from ((congrFun (f33 38 (by decide)) 1).trans (congrFun (f17 38 (by decide)) 1))))
      have z71 : (σ31 55 55).toInt = (σ 55 55).toInt := (congrArg Int32.toInt (show σ31 55 55 = (σ 55 55) from ((f34 55 (by decide)).trans (congrFun (f17 55 (by decide)) 55))))
      exact ih x45 σ31 τ _ _ ls (by have h9 := tx45; omega) ⟨I46, I47, I48, I49, I50, I51, I52, I53, I54, I55, I56, I35, I36, I57, I58, I59, I60, I61, I62, I63, I64, I65, p66, p67, (by omega), (by omega), (show jKd (σ31 39) (σ31 70) (σ31 55 32).toInt by rw [show σ31 39 = σ 39 from ((f33 39 (by decide)).trans (f17 39 (by decide))), show σ31 70 = σ 70 from ((f33 70 (by decide)).trans (f17 70 (by decide))), show (σ31 55 32).toInt = (σ 55 32).toInt from by omega]; exact hr0), (show jTt (σ31 42) (σ31 85) (σ31 55 55).toInt by rw [show σ31 42 = σ 42 from ((f33 42 (by decide)).trans (f17 42 (by decide))), show σ31 85 = σ 85 from ((f33 85 (by decide)).trans (f17 85 (by decide))), show (σ31 55 55).toInt = (σ 55 55).toInt from by omega]; exact hr1)⟩ hP hS (lv_sub hl [0, 1, 2, 3] rfl)
    · obtain ⟨q78, k72, k73, k74, k75, k76, k77⟩ := h39
      exact absurd (by omega : False) id
    · obtain ⟨q86, k79, k80, k81, k82, k83, k84, k85⟩ := h40
      exact absurd (by omega : False) id
  · obtain ⟨q93, k87, k88, k89, k90, k91, k92⟩ := h22
    have q93 := q93.symm
    subst q93
    refine lv_pop hx hb dL_law_215 rfl ?_
    refine lv_aload_n hx hb dL_law_216 rfl (lv_at hl 1 rfl) ?_
    refine lv_aload_n hx hb dL_law_217 rfl (lv_at hl 3 rfl) ?_
    refine lv_iload_n hx hb dL_law_218 rfl (lv_at hl 0 rfl) ?_
    refine lv_iconst (v := 1) hx hb dL_law_219 (by decide) ?_
    refine lv_iadd hx hb dL_law_220 ?_
    refine jtopr ex9.symm ?_
    refine va_sld hx hb hX hbl hbA hS (jin tx9 (by omega) (by omega)) dL_law_221 ?_
    refine lv_aload_n hx hb dL_law_222 rfl (lv_at hl 3 rfl) ?_
    refine lv_iload_n hx hb dL_law_223 rfl (lv_at hl 0 rfl) ?_
    refine lv_iconst (v := 2) hx hb dL_law_224 (by decide) ?_
    refine lv_iadd hx hb dL_law_225 ?_
    refine jtopr ex11.symm ?_
    refine va_sld hx hb hX hbl hbA hS (jin tx11 (by omega) (by omega)) dL_law_226 ?_
    refine lv_aload_n hx hb dL_law_227 rfl (lv_at hl 3 rfl) ?_
    refine lv_iload_n hx hb dL_law_228 rfl (lv_at hl 0 rfl) ?_
    refine lv_iconst (v := 3) hx hb dL_law_229 (by decide) ?_
    refine lv_iadd hx hb dL_law_230 ?_
    refine jtopr ex13.symm ?_
    refine va_sld hx hb hX hbl hbA hS (jin tx13 (by omega) (by omega)) dL_law_231 ?_
    have I94 : jI101 σ15 := jI101_fr (congrFun (f17 55 (by decide)) 4) (congrFun (f17 55 (by decide)) 5) (f17 56 (by decide)) (f17 57 (by decide)) (f17 58 (by decide)) (f17 59 (by decide)) hI101
    have I95 : jI102 σ15 := jI102_fr (congrFun (f17 55 (by decide)) 6) (f17 60 (by decide)) (f17 61 (by decide)) hI102
    have z96 : (σ15 55 6).toInt = (σ 55 6).toInt := (congrArg Int32.toInt (show σ15 55 6 = (σ 55 6) from (congrFun (f17 55 (by decide)) 6)))
    refine jcallV (As := [.int (xs x9.toNatClampNeg), .int (xs x11.toNatClampNeg), .int (xs x13.toNatClampNeg)]) (rest := []) ⟨hx, hb, hml, hown, hts⟩ hK hP hA hS hZ (c_X12_bowler l D cI cL ad zz hJ σ15 τ (xs x9.toNatClampNeg) ((xs x9.toNatClampNeg).toInt) rfl (xs x11.toNatClampNeg) ((xs x11.toNatClampNeg).toInt) rfl (xs x13.toNatClampNeg) ((xs x13.toNatClampNeg).toInt) rfl I94 I95) cw_RL_17 (jc_55 cI cL ad σ15 τ) rfl ⟨Nat.le_of_ble_eq_true rfl, Nat.le_of_ble_eq_true rfl⟩ rfl rfl rfl hl.1 rfl (Nat.le_of_ble_eq_true rfl) dL_law_232 ⟨Nat.le_of_ble_eq_true rfl, Nat.le_of_ble_eq_true rfl⟩ (fun r98 σ97 τ97 H locs h97 hP hS => ?_)
    obtain ⟨rfl, f99, f100, I101, I102, h97⟩ := h97
    rcases h97 with h104 | h105 | h106
    · obtain ⟨q110, k107, k108, k109⟩ := h104
      exact absurd (by omega : False) id
    · obtain ⟨q117, k111, k112, k113, k114, k115, k116⟩ := h105
      have q117 := q117.symm
      subst q117
      refine lv_pop hx hb dL_law_235 rfl ?_
      refine lv_goto (tgt := 1357) hx hb dL_law_236 (by decide) ?_
      obtain ⟨x118, ex118⟩ : ∃ y : Int32, y = x0 + 6 := ⟨_, rfl⟩
      have tx118 : x118.toInt = x0.toInt + 6 := (jadd ex118 rfl jz_6 (by omega) (by omega)).trans (by omega)
      refine lv_iinc (v := x118) (lv' := [(3, .int x118), (2, .ref (ad 55)), (1, .ref (ad 0)), (0, .ref b)]) hx hb dL_law_1357 hl (k := 0) rfl (by rw [ex118]; rfl) (by decide) rfl (fun ls hl => ?_)
      refine lv_goto (tgt := 18) hx hb dL_law_1360 (by decide) ?_
      have I119 : jI2 σ97 := jI2_fr (congrFun (f99 2 (by decide)) 0) (congrFun (f99 2 (by decide)) 1) (congrFun (f99 2 (by decide)) 2) (congrFun (f99 2 (by decide)) 3) (f99 6 (by decide)) I19
      have I120 : jI9 σ97 := jI9_fr ((congrFun (f99 9 (by decide)) 0).trans (congrFun (f17 9 (by decide)) 0)) ((f99 10 (by decide)).trans (f17 10 (by decide))) ((f99 11 (by decide)).trans (f17 11 (by decide))) hI9
      have I121 : jI12 σ97 := jI12_fr ((congrFun (f99 12 (by decide)) 0).trans (congrFun (f17 12 (by decide)) 0)) ((f99 13 (by decide)).trans (f17 13 (by decide))) hI12
      have I122 : jI16 σ97 := jI16_fr ((congrFun (f99 16 (by decide)) 0).trans (congrFun (f17 16 (by decide)) 0)) ((congrFun (f99 16 (by decide)) 1).trans (congrFun (f17 16 (by decide)) 1)) ((congrFun (f99 16 (by decide)) 2).trans (congrFun (f17 16 (by decide)) 2)) ((f99 17 (by decide)).trans (f17 17 (by decide))) hI16
      have I123 : jI18 σ97 := jI18_fr ((congrFun (f99 18 (by decide)) 0).trans (congrFun (f17 18 (by decide)) 0)) ((f99 19 (by decide)).trans (f17 19 (by decide))) hI18
      have I124 : jI22 σ97 := jI22_fr ((congrFun (f99 22 (by decide)) 0).trans (congrFun (f17 22 (by decide)) 0)) ((f99 23 (by decide)).trans (f17 23 (by decide))) hI22
      have I125 : jI31 σ97 := jI31_fr ((congrFun (f99 31 (by decide)) 8).trans (congrFun (f17 31 (by decide)) 8)) ((f99 33 (by decide)).trans (f17 33 (by decide))) ((f99 36 (by decide)).trans (f17 36 (by decide))) hI31
      have I126 : jI38 σ97 := jI38_fr ((congrFun (f99 38 (by decide)) 0).trans (congrFun (f17 38 (by decide)) 0)) ((congrFun (f99 38 (by decide)) 1).trans (congrFun (f17 38 (by decide)) 1)) ((f99 39 (by decide)).trans (f17 39 (by decide))) hI38
      have I127 : jI43 σ97 := jI43_fr ((congrFun (f99 43 (by decide)) 8).trans (congrFun (f17 43 (by decide)) 8)) hI43
      have I128 : jI47 σ97 := jI47_fr ((congrFun (f99 47 (by decide)) 0).trans (congrFun (f17 47 (by decide)) 0)) ((f99 48 (by decide)).trans (f17 48 (by decide))) ((f99 49 (by decide)).trans (f17 49 (by decide))) hI47
      have I129 : jI50 σ97 := jI50_fr ((f99 52 (by decide)).trans (f17 52 (by decide))) hI50
      have I130 : jI103 σ97 := jI103_fr ((f100 9 (by decide)).trans (congrFun (f17 55 (by decide)) 9)) hI103
      have I131 : jI104 σ97 := jI104_fr ((f100 10 (by decide)).trans (congrFun (f17 55 (by decide)) 10)) ((f100 12 (by decide)).trans (congrFun (f17 55 (by decide)) 12)) ((f100 13 (by decide)).trans (congrFun (f17 55 (by decide)) 13)) ((f99 62 (by decide)).trans (f17 62 (by decide))) ((f99 67 (by decide)).trans (f17 67 (by decide))) hI104
      have I132 : jI105 σ97 := jI105_fr ((f100 15 (by decide)).trans (congrFun (f17 55 (by decide)) 15)) ((f99 65 (by decide)).trans (f17 65 (by decide))) hI105
      have I133 : jI106 σ97 := jI106_fr ((f100 32 (by decide)).trans (congrFun (f17 55 (by decide)) 32)) ((f99 70 (by decide)).trans (f17 70 (by decide))) ((f99 71 (by decide)).trans (f17 71 (by decide))) ((f99 72 (by decide)).trans (f17 72 (by decide))) hI106
      have I134 : jI107 σ97 := jI107_fr ((f100 12 (by decide)).trans (congrFun (f17 55 (by decide)) 12)) ((f100 47 (by decide)).trans (congrFun (f17 55 (by decide)) 47)) ((f99 80 (by decide)).trans (f17 80 (by decide))) hI107
      have I135 : jI109 σ97 := jI109_fr ((f100 50 (by decide)).trans (congrFun (f17 55 (by decide)) 50)) hI109
      have I136 : jI110 σ97 := jI110_fr ((f99 86 (by decide)).trans (f17 86 (by decide))) ((f99 87 (by decide)).trans (f17 87 (by decide))) hI110
      have I137 : jI111 σ97 := jI111_fr ((f99 79 (by decide)).trans (f17 79 (by decide))) hI111
      have I138 : jI119 σ97 := jI119_fr ((f99 68 (by decide)).trans (f17 68 (by decide))) hI119
      have p139 : jKept σ97 := jKept.fr ((f99 75 (by decide)).trans (f17 75 (by decide))) ((f99 76 (by decide)).trans (f17 76 (by decide))) ((f99 77 (by decide)).trans (f17 77 (by decide))) hs_jKept
      have p140 : jBook σ97 := jBook.fr ((f100 47 (by decide)).trans (congrFun (f17 55 (by decide)) 47)) ((f100 10 (by decide)).trans (congrFun (f17 55 (by decide)) 10)) ((f99 81 (by decide)).trans (f17 81 (by decide))) hs_jBook
      have z141 : (σ97 38 0).toInt = (σ 38 0).toInt := (congrArg Int32.toInt (show σ97 38 0 = (σ 38 0) from ((congrFun (f99 38 (by decide)) 0).trans (congrFun (f17 38 (by decide)) 0))))
      have z142 : (σ97 55 32).toInt = (σ 55 32).toInt := (congrArg Int32.toInt (show σ97 55 32 = (σ 55 32) from ((f100 32 (by decide)).trans (congrFun (f17 55 (by decide)) 32))))
      have z143 : (σ97 38 1).toInt = (σ 38 1).toInt := (congrArg Int32.toInt (show σ97 38 1 = (σ 38 1) from ((congrFun (f99 38 (by decide)) 1).trans (congrFun (f17 38 (by decide)) 1))))
      have z144 : (σ97 55 55).toInt = (σ 55 55).toInt := (congrArg Int32.toInt (show σ97 55 55 = (σ 55 55) from ((f100 55 (by decide)).trans (congrFun (f17 55 (by decide)) 55))))
      exact ih x118 σ97 τ _ _ ls (by have h9 := tx118; omega) ⟨I119, I120, I121, I122, I123, I124, I125, I126, I127, I128, I129, I101, I102, I130, I131, I132, I133, I134, I135, I136, I137, I138, p139, p140, (by omega), (by omega), (show jKd (σ97 39) (σ97 70) (σ97 55 32).toInt by rw [show σ97 39 = σ 39 from ((f99 39 (by decide)).trans (f17 39 (by decide))), show σ97 70 = σ 70 from ((f99 70 (by decide)).trans (f17 70 (by decide))), show (σ97 55 32).toInt = (σ 55 32).toInt from by omega]; exact hr0), (show jTt (σ97 42) (σ97 85) (σ97 55 55).toInt by rw [show σ97 42 = σ 42 from ((f99 42 (by decide)).trans (f17 42 (by decide))), show σ97 85 = σ 85 from ((f99 85 (by decide)).trans (f17 85 (by decide))), show (σ97 55 55).toInt = (σ 55 55).toInt from by omega]; exact hr1)⟩ hP hS (lv_sub hl [0, 1, 2, 3] rfl)
    · obtain ⟨q152, k145, k146, k147, k148, k149, k150, k151⟩ := h106
      refine lv_pop hx hb dL_law_235 rfl ?_
      refine lv_goto (tgt := 1357) hx hb dL_law_236 (by decide) ?_
      obtain ⟨x153, ex153⟩ : ∃ y : Int32, y = x0 + 6 := ⟨_, rfl⟩
      have tx153 : x153.toInt = x0.toInt + 6 := (jadd ex153 rfl jz_6 (by omega) (by omega)).trans (by omega)
      refine lv_iinc (v := x153) (lv' := [(3, .int x153), (2, .ref (ad 55)), (1, .ref (ad 0)), (0, .ref b)]) hx hb dL_law_1357 hl (k := 0) rfl (by rw [ex153]; rfl) (by decide) rfl (fun ls hl => ?_)
      refine lv_goto (tgt := 18) hx hb dL_law_1360 (by decide) ?_
      have I154 : jI2 σ97 := jI2_fr (congrFun (f99 2 (by decide)) 0) (congrFun (f99 2 (by decide)) 1) (congrFun (f99 2 (by decide)) 2) (congrFun (f99 2 (by decide)) 3) (f99 6 (by decide)) I19
      have I155 : jI9 σ97 := jI9_fr ((congrFun (f99 9 (by decide)) 0).trans (congrFun (f17 9 (by decide)) 0)) ((f99 10 (by decide)).trans (f17 10 (by decide))) ((f99 11 (by decide)).trans (f17 11 (by decide))) hI9
      have I156 : jI12 σ97 := jI12_fr ((congrFun (f99 12 (by decide)) 0).trans (congrFun (f17 12 (by decide)) 0)) ((f99 13 (by decide)).trans (f17 13 (by decide))) hI12
      have I157 : jI16 σ97 := jI16_fr ((congrFun (f99 16 (by decide)) 0).trans (congrFun (f17 16 (by decide)) 0)) ((congrFun (f99 16 (by decide)) 1).trans (congrFun (f17 16 (by decide)) 1)) ((congrFun (f99 16 (by decide)) 2).trans (congrFun (f17 16 (by decide)) 2)) ((f99 17 (by decide)).trans (f17 17 (by decide))) hI16
      have I158 : jI18 σ97 := jI18_fr ((congrFun (f99 18 (by decide)) 0).trans (congrFun (f17 18 (by decide)) 0)) ((f99 19 (by decide)).trans (f17 19 (by decide))) hI18
      have I159 : jI22 σ97 := jI22_fr ((congrFun (f99 22 (by decide)) 0).trans (congrFun (f17 22 (by decide)) 0)) ((f99 23 (by decide)).trans (f17 23 (by decide))) hI22
      have I160 : jI31 σ97 := jI31_fr ((congrFun (f99 31 (by decide)) 8).trans (congrFun (f17 31 (by decide)) 8)) ((f99 33 (by decide)).trans (f17 33 (by decide))) ((f99 36 (by decide)).trans (f17 36 (by decide))) hI31
      have I161 : jI38 σ97 := jI38_fr ((congrFun (f99 38 (by decide)) 0).trans (congrFun (f17 38 (by decide)) 0)) ((congrFun (f99 38 (by decide)) 1).trans (congrFun (f17 38 (by decide)) 1)) ((f99 39 (by decide)).trans (f17 39 (by decide))) hI38
      have I162 : jI43 σ97 := jI43_fr ((congrFun (f99 43 (by decide)) 8).trans (congrFun (f17 43 (by decide)) 8)) hI43
      have I163 : jI47 σ97 := jI47_fr ((congrFun (f99 47 (by decide)) 0).trans (congrFun (f17 47 (by decide)) 0)) ((f99 48 (by decide)).trans (f17 48 (by decide))) ((f99 49 (by decide)).trans (f17 49 (by decide))) hI47
      have I164 : jI50 σ97 := jI50_fr ((f99 52 (by decide)).trans (f17 52 (by decide))) hI50
      have I165 : jI103 σ97 := jI103_fr ((f100 9 (by decide)).trans (congrFun (f17 55 (by decide)) 9)) hI103
      have I166 : jI104 σ97 := jI104_fr ((f100 10 (by decide)).trans (congrFun (f17 55 (by decide)) 10)) ((f100 12 (by decide)).trans (congrFun (f17 55 (by decide)) 12)) ((f100 13 (by decide)).trans (congrFun (f17 55 (by decide)) 13)) ((f99 62 (by decide)).trans (f17 62 (by decide))) ((f99 67 (by decide)).trans (f17 67 (by decide))) hI104
      have I167 : jI105 σ97 := jI105_fr ((f100 15 (by decide)).trans (congrFun (f17 55 (by decide)) 15)) ((f99 65 (by decide)).trans (f17 65 (by decide))) hI105
      have I168 : jI106 σ97 := jI106_fr ((f100 32 (by decide)).trans (congrFun (f17 55 (by decide)) 32)) ((f99 70 (by decide)).trans (f17 70 (by decide))) ((f99 71 (by decide)).trans (f17 71 (by decide))) ((f99 72 (by decide)).trans (f17 72 (by decide))) hI106
      have I169 : jI107 σ97 := jI107_fr ((f100 12 (by decide)).trans (congrFun (f17 55 (by decide)) 12)) ((f100 47 (by decide)).trans (congrFun (f17 55 (by decide)) 47)) ((f99 80 (by decide)).trans (f17 80 (by decide))) hI107
      have I170 : jI109 σ97 := jI109_fr ((f100 50 (by decide)).trans (congrFun (f17 55 (by decide)) 50)) hI109
      have I171 : jI110 σ97 := jI110_fr ((f99 86 (by decide)).trans (f17 86 (by decide))) ((f99 87 (by decide)).trans (f17 87 (by decide))) hI110
      have I172 : jI111 σ97 := jI111_fr ((f99 79 (by decide)).trans (f17 79 (by decide))) hI111
      have I173 : jI119 σ97 := jI119_fr ((f99 68 (by decide)).trans (f17 68 (by decide))) hI119
      have p174 : jKept σ97 := jKept.fr ((f99 75 (by decide)).trans (f17 75 (by decide))) ((f99 76 (by decide)).trans (f17 76 (by decide))) ((f99 77 (by decide)).trans (f17 77 (by decide))) hs_jKept
      have p175 : jBook σ97 := jBook.fr ((f100 47 (by decide)).trans (congrFun (f17 55 (by decide)) 47)) ((f100 10 (by decide)).trans (congrFun (f17 55 (by decide)) 10)) ((f99 81 (by decide)).trans (f17 81 (by decide))) hs_jBook
      have z176 : (σ97 38 0).toInt = (σ 38 0).toInt := (congrArg Int32.toInt (show σ97 38 0 = (σ 38 0) from ((congrFun (f99 38 (by decide)) 0).trans (congrFun (f17 38 (by decide)) 0))))
      have z177 : (σ97 55 32).toInt = (σ 55 32).toInt := (congrArg Int32.toInt (show σ97 55 32 = (σ 55 32) from ((f100 32 (by decide)).trans (congrFun (f17 55 (by decide)) 32))))
      have z178 : (σ97 38 1).toInt = (σ 38 1).toInt := (congrArg Int32.toInt (show σ97 38 1 = (σ 38 1) from ((congrFun (f99 38 (by decide)) 1).trans (congrFun (f17 38 (by decide)) 1))))
      have z179 : (σ97 55 55).toInt = (σ 55 55).toInt := (congrArg Int32.toInt (show σ97 55 55 = (σ 55 55) from ((f100 55 (by decide)).trans (congrFun (f17 55 (by decide)) 55))))
      exact ih x153 σ97 τ _ _ ls (by have h9 := tx153; omega) ⟨I154, I155, I156, I157, I158, I159, I160, I161, I162, I163, I164, I101, I102, I165, I166, I167, I168, I169, I170, I171, I172, I173, p174, p175, (by omega), (by omega), (show jKd (σ97 39) (σ97 70) (σ97 55 32).toInt by rw [show σ97 39 = σ 39 from ((f99 39 (by decide)).trans (f17 39 (by decide))), show σ97 70 = σ 70 from ((f99 70 (by decide)).trans (f17 70 (by decide))), show (σ97 55 32).toInt = (σ 55 32).toInt from by omega]; exact hr0), (show jTt (σ97 42) (σ97 85) (σ97 55 55).toInt by rw [show σ97 42 = σ 42 from ((f99 42 (by decide)).trans (f17 42 (by decide))), show σ97 85 = σ 85 from ((f99 85 (by decide)).trans (f17 85 (by decide))), show (σ97 55 55).toInt = (σ 55 55).toInt from by omega]; exact hr1)⟩ hP hS (lv_sub hl [0, 1, 2, 3] rfl)
  · obtain ⟨q187, k180, k181, k182, k183, k184, k185, k186⟩ := h23
    refine lv_pop hx hb dL_law_215 rfl ?_
    refine lv_aload_n hx hb dL_law_216 rfl (lv_at hl 1 rfl) ?_
    refine lv_aload_n hx hb dL_law_217 rfl (lv_at hl 3 rfl) ?_
    refine lv_iload_n hx hb dL_law_218 rfl (lv_at hl 0 rfl) ?_
    refine lv_iconst (v := 1) hx hb dL_law_219 (by decide) ?_
    refine lv_iadd hx hb dL_law_220 ?_
    refine jtopr ex9.symm ?_
    refine va_sld hx hb hX hbl hbA hS (jin tx9 (by omega) (by omega)) dL_law_221 ?_
    refine lv_aload_n hx hb dL_law_222 rfl (lv_at hl 3 rfl) ?_
    refine lv_iload_n hx hb dL_law_223 rfl (lv_at hl 0 rfl) ?_
    refine lv_iconst (v := 2) hx hb dL_law_224 (by decide) ?_
    refine lv_iadd hx hb dL_law_225 ?_
    refine jtopr ex11.symm ?_
    refine va_sld hx hb hX hbl hbA hS (jin tx11 (by omega) (by omega)) dL_law_226 ?_
    refine lv_aload_n hx hb dL_law_227 rfl (lv_at hl 3 rfl) ?_
    refine lv_iload_n hx hb dL_law_228 rfl (lv_at hl 0 rfl) ?_
    refine lv_iconst (v := 3) hx hb dL_law_229 (by decide) ?_
    refine lv_iadd hx hb dL_law_230 ?_
    refine jtopr ex13.symm ?_
    refine va_sld hx hb hX hbl hbA hS (jin tx13 (by omega) (by omega)) dL_law_231 ?_
    have I188 : jI101 σ15 := jI101_fr (congrFun (f17 55 (by decide)) 4) (congrFun (f17 55 (by decide)) 5) (f17 56 (by decide)) (f17 57 (by decide)) (f17 58 (by decide)) (f17 59 (by decide)) hI101
    have I189 : jI102 σ15 := jI102_fr (congrFun (f17 55 (by decide)) 6) (f17 60 (by decide)) (f17 61 (by decide)) hI102
    have z190 : (σ15 55 6).toInt = (σ 55 6).toInt := (congrArg Int32.toInt (show σ15 55 6 = (σ 55 6) from (congrFun (f17 55 (by decide)) 6)))
    refine jcallV (As := [.int (xs x9.toNatClampNeg), .int (xs x11.toNatClampNeg), .int (xs x13.toNatClampNeg)]) (rest := []) ⟨hx, hb, hml, hown, hts⟩ hK hP hA hS hZ (c_X12_bowler l D cI cL ad zz hJ σ15 τ (xs x9.toNatClampNeg) ((xs x9.toNatClampNeg).toInt) rfl (xs x11.toNatClampNeg) ((xs x11.toNatClampNeg).toInt) rfl (xs x13.toNatClampNeg) ((xs x13.toNatClampNeg).toInt) rfl I188 I189) cw_RL_17 (jc_55 cI cL ad σ15 τ) rfl ⟨Nat.le_of_ble_eq_true rfl, Nat.le_of_ble_eq_true rfl⟩ rfl rfl rfl hl.1 rfl (Nat.le_of_ble_eq_true rfl) dL_law_232 ⟨Nat.le_of_ble_eq_true rfl, Nat.le_of_ble_eq_true rfl⟩ (fun r192 σ191 τ191 H locs h191 hP hS => ?_)
    obtain ⟨rfl, f193, f194, I195, I196, h191⟩ := h191
    rcases h191 with h198 | h199 | h200
    · obtain ⟨q204, k201, k202, k203⟩ := h198
      exact absurd (by omega : False) id
    · obtain ⟨q211, k205, k206, k207, k208, k209, k210⟩ := h199
      have q211 := q211.symm
      subst q211
      refine lv_pop hx hb dL_law_235 rfl ?_
      refine lv_goto (tgt := 1357) hx hb dL_law_236 (by decide) ?_
      obtain ⟨x212, ex212⟩ : ∃ y : Int32, y = x0 + 6 := ⟨_, rfl⟩
      have tx212 : x212.toInt = x0.toInt + 6 := (jadd ex212 rfl jz_6 (by omega) (by omega)).trans (by omega)
      refine lv_iinc (v := x212) (lv' := [(3, .int x212), (2, .ref (ad 55)), (1, .ref (ad 0)), (0, .ref b)]) hx hb dL_law_1357 hl (k := 0) rfl (by rw [ex212]; rfl) (by decide) rfl (fun ls hl => ?_)
      refine lv_goto (tgt := 18) hx hb dL_law_1360 (by decide) ?_
      have I213 : jI2 σ191 := jI2_fr (congrFun (f193 2 (by decide)) 0) (congrFun (f193 2 (by decide)) 1) (congrFun (f193 2 (by decide)) 2) (congrFun (f193 2 (by decide)) 3) (f193 6 (by decide)) I19
      have I214 : jI9 σ191 := jI9_fr ((congrFun (f193 9 (by decide)) 0).trans (congrFun (f17 9 (by decide)) 0)) ((f193 10 (by decide)).trans (f17 10 (by decide))) ((f193 11 (by decide)).trans (f17 11 (by decide))) hI9
      have I215 : jI12 σ191 := jI12_fr ((congrFun (f193 12 (by decide)) 0).trans (congrFun (f17 12 (by decide)) 0)) ((f193 13 (by decide)).trans (f17 13 (by decide))) hI12
      have I216 : jI16 σ191 := jI16_fr ((congrFun (f193 16 (by decide)) 0).trans (congrFun (f17 16 (by decide)) 0)) ((congrFun (f193 16 (by decide)) 1).trans (congrFun (f17 16 (by decide)) 1)) ((congrFun (f193 16 (by decide)) 2).trans (congrFun (f17 16 (by decide)) 2)) ((f193 17 (by decide)).trans (f17 17 (by decide))) hI16
      have I217 : jI18 σ191 := jI18_fr ((congrFun (f193 18 (by decide)) 0).trans (congrFun (f17 18 (by decide)) 0)) ((f193 19 (by decide)).trans (f17 19 (by decide))) hI18
      have I218 : jI22 σ191 := jI22_fr ((congrFun (f193 22 (by decide)) 0).trans (congrFun (f17 22 (by decide)) 0)) ((f193 23 (by decide)).trans (f17 23 (by decide))) hI22
      have I219 : jI31 σ191 := jI31_fr ((congrFun (f193 31 (by decide)) 8).trans (congrFun (f17 31 (by decide)) 8)) ((f193 33 (by decide)).trans (f17 33 (by decide))) ((f193 36 (by decide)).trans (f17 36 (by decide))) hI31
      have I220 : jI38 σ191 := jI38_fr ((congrFun (f193 38 (by decide)) 0).trans (congrFun (f17 38 (by decide)) 0)) ((congrFun (f193 38 (by decide)) 1).trans (congrFun (f17 38 (by decide)) 1)) ((f193 39 (by decide)).trans (f17 39 (by decide))) hI38
      have I221 : jI43 σ191 := jI43_fr ((congrFun (f193 43 (by decide)) 8).trans (congrFun (f17 43 (by decide)) 8)) hI43
      have I222 : jI47 σ191 := jI47_fr ((congrFun (f193 47 (by decide)) 0).trans (congrFun (f17 47 (by decide)) 0)) ((f193 48 (by decide)).trans (f17 48 (by decide))) ((f193 49 (by decide)).trans (f17 49 (by decide))) hI47
      have I223 : jI50 σ191 := jI50_fr ((f193 52 (by decide)).trans (f17 52 (by decide))) hI50
      have I224 : jI103 σ191 := jI103_fr ((f194 9 (by decide)).trans (congrFun (f17 55 (by decide)) 9)) hI103
      have I225 : jI104 σ191 := jI104_fr ((f194 10 (by decide)).trans (congrFun (f17 55 (by decide)) 10)) ((f194 12 (by decide)).trans (congrFun (f17 55 (by decide)) 12)) ((f194 13 (by decide)).trans (congrFun (f17 55 (by decide)) 13)) ((f193 62 (by decide)).trans (f17 62 (by decide))) ((f193 67 (by decide)).trans (f17 67 (by decide))) hI104
      have I226 : jI105 σ191 := jI105_fr ((f194 15 (by decide)).trans (congrFun (f17 55 (by decide)) 15)) ((f193 65 (by decide)).trans (f17 65 (by decide))) hI105
      have I227 : jI106 σ191 := jI106_fr ((f194 32 (by decide)).trans (congrFun (f17 55 (by decide)) 32)) ((f193 70 (by decide)).trans (f17 70 (by decide))) ((f193 71 (by decide)).trans (f17 71 (by decide))) ((f193 72 (by decide)).trans (f17 72 (by decide))) hI106
      have I228 : jI107 σ191 := jI107_fr ((f194 12 (by decide)).trans (congrFun (f17 55 (by decide)) 12)) ((f194 47 (by decide)).trans (congrFun (f17 55 (by decide)) 47)) ((f193 80 (by decide)).trans (f17 80 (by decide))) hI107
      have I229 : jI109 σ191 := jI109_fr ((f194 50 (by decide)).trans (congrFun (f17 55 (by decide)) 50)) hI109
      have I230 : jI110 σ191 := jI110_fr ((f193 86 (by decide)).trans (f17 86 (by decide))) ((f193 87 (by decide)).trans (f17 87 (by decide))) hI110
      have I231 : jI111 σ191 := jI111_fr ((f193 79 (by decide)).trans (f17 79 (by decide))) hI111
      have I232 : jI119 σ191 := jI119_fr ((f193 68 (by decide)).trans (f17 68 (by decide))) hI119
      have p233 : jKept σ191 := jKept.fr ((f193 75 (by decide)).trans (f17 75 (by decide))) ((f193 76 (by decide)).trans (f17 76 (by decide))) ((f193 77 (by decide)).trans (f17 77 (by decide))) hs_jKept
      have p234 : jBook σ191 := jBook.fr ((f194 47 (by decide)).trans (congrFun (f17 55 (by decide)) 47)) ((f194 10 (by decide)).trans (congrFun (f17 55 (by decide)) 10)) ((f193 81 (by decide)).trans (f17 81 (by decide))) hs_jBook
      have z235 : (σ191 38 0).toInt = (σ 38 0).toInt := (congrArg Int32.toInt (show σ191 38 0 = (σ 38 0) from ((congrFun (f193 38 (by decide)) 0).trans (congrFun (f17 38 (by decide)) 0))))
      have z236 : (σ191 55 32).toInt = (σ 55 32).toInt := (congrArg Int32.toInt (show σ191 55 32 = (σ 55 32) from ((f194 32 (by decide)).trans (congrFun (f17 55 (by decide)) 32))))
      have z237 : (σ191 38 1).toInt = (σ 38 1).toInt := (congrArg Int32.toInt (show σ191 38 1 = (σ 38 1) from ((congrFun (f193 38 (by decide)) 1).trans (congrFun (f17 38 (by decide)) 1))))
      have z238 : (σ191 55 55).toInt = (σ 55 55).toInt := (congrArg Int32.toInt (show σ191 55 55 = (σ 55 55) from ((f194 55 (by decide)).trans (congrFun (f17 55 (by decide)) 55))))
      exact ih x212 σ191 τ _ _ ls (by have h9 := tx212; omega) ⟨I213, I214, I215, I216, I217, I218, I219, I220, I221, I222, I223, I195, I196, I224, I225, I226, I227, I228, I229, I230, I231, I232, p233, p234, (by omega), (by omega), (show jKd (σ191 39) (σ191 70) (σ191 55 32).toInt by rw [show σ191 39 = σ 39 from ((f193 39 (by decide)).trans (f17 39 (by decide))), show σ191 70 = σ 70 from ((f193 70 (by decide)).trans (f17 70 (by decide))), show (σ191 55 32).toInt = (σ 55 32).toInt from by omega]; exact hr0), (show jTt (σ191 42) (σ191 85) (σ191 55 55).toInt by rw [show σ191 42 = σ 42 from ((f193 42 (by decide)).trans (f17 42 (by decide))), show σ191 85 = σ 85 from ((f193 85 (by decide)).trans (f17 85 (by decide))), show (σ191 55 55).toInt = (σ 55 55).toInt from by omega]; exact hr1)⟩ hP hS (lv_sub hl [0, 1, 2, 3] rfl)
    · obtain ⟨q246, k239, k240, k241, k242, k243, k244, k245⟩ := h200
      refine lv_pop hx hb dL_law_235 rfl ?_
      refine lv_goto (tgt := 1357) hx hb dL_law_236 (by decide) ?_
      obtain ⟨x247, ex247⟩ : ∃ y : Int32, y = x0 + 6 := ⟨_, rfl⟩
      have tx247 : x247.toInt = x0.toInt + 6 := (jadd ex247 rfl jz_6 (by omega) (by omega)).trans (by omega)
      refine lv_iinc (v := x247) (lv' := [(3, .int x247), (2, .ref (ad 55)), (1, .ref (ad 0)), (0, .ref b)]) hx hb dL_law_1357 hl (k := 0) rfl (by rw [ex247]; rfl) (by decide) rfl (fun ls hl => ?_)
      refine lv_goto (tgt := 18) hx hb dL_law_1360 (by decide) ?_
      have I248 : jI2 σ191 := jI2_fr (congrFun (f193 2 (by decide)) 0) (congrFun (f193 2 (by decide)) 1) (congrFun (f193 2 (by decide)) 2) (congrFun (f193 2 (by decide)) 3) (f193 6 (by decide)) I19
      have I249 : jI9 σ191 := jI9_fr ((congrFun (f193 9 (by decide)) 0).trans (congrFun (f17 9 (by decide)) 0)) ((f193 10 (by decide)).trans (f17 10 (by decide))) ((f193 11 (by decide)).trans (f17 11 (by decide))) hI9
      have I250 : jI12 σ191 := jI12_fr ((congrFun (f193 12 (by decide)) 0).trans (congrFun (f17 12 (by decide)) 0)) ((f193 13 (by decide)).trans (f17 13 (by decide))) hI12
      have I251 : jI16 σ191 := jI16_fr ((congrFun (f193 16 (by decide)) 0).trans (congrFun (f17 16 (by decide)) 0)) ((congrFun (f193 16 (by decide)) 1).trans (congrFun (f17 16 (by decide)) 1)) ((congrFun (f193 16 (by decide)) 2).trans (congrFun (f17 16 (by decide)) 2)) ((f193 17 (by decide)).trans (f17 17 (by decide))) hI16
      have I252 : jI18 σ191 := jI18_fr ((congrFun (f193 18 (by decide)) 0).trans (congrFun (f17 18 (by decide)) 0)) ((f193 19 (by decide)).trans (f17 19 (by decide))) hI18
      have I253 : jI22 σ191 := jI22_fr ((congrFun (f193 22 (by decide)) 0).trans (congrFun (f17 22 (by decide)) 0)) ((f193 23 (by decide)).trans (f17 23 (by decide))) hI22
      have I254 : jI31 σ191 := jI31_fr ((congrFun (f193 31 (by decide)) 8).trans (congrFun (f17 31 (by decide)) 8)) ((f193 33 (by decide)).trans (f17 33 (by decide))) ((f193 36 (by decide)).trans (f17 36 (by decide))) hI31
      have I255 : jI38 σ191 := jI38_fr ((congrFun (f193 38 (by decide)) 0).trans (congrFun (f17 38 (by decide)) 0)) ((congrFun (f193 38 (by decide)) 1).trans (congrFun (f17 38 (by decide)) 1)) ((f193 39 (by decide)).trans (f17 39 (by decide))) hI38
      have I256 : jI43 σ191 := jI43_fr ((congrFun (f193 43 (by decide)) 8).trans (congrFun (f17 43 (by decide)) 8)) hI43
      have I257 : jI47 σ191 := jI47_fr ((congrFun (f193 47 (by decide)) 0).trans (congrFun (f17 47 (by decide)) 0)) ((f193 48 (by decide)).trans (f17 48 (by decide))) ((f193 49 (by decide)).trans (f17 49 (by decide))) hI47
      have I258 : jI50 σ191 := jI50_fr ((f193 52 (by decide)).trans (f17 52 (by decide))) hI50
      have I259 : jI103 σ191 := jI103_fr ((f194 9 (by decide)).trans (congrFun (f17 55 (by decide)) 9)) hI103
      have I260 : jI104 σ191 := jI104_fr ((f194 10 (by decide)).trans (congrFun (f17 55 (by decide)) 10)) ((f194 12 (by decide)).trans (congrFun (f17 55 (by decide)) 12)) ((f194 13 (by decide)).trans (congrFun (f17 55 (by decide)) 13)) ((f193 62 (by decide)).trans (f17 62 (by decide))) ((f193 67 (by decide)).trans (f17 67 (by decide))) hI104
      have I261 : jI105 σ191 := jI105_fr ((f194 15 (by decide)).trans (congrFun (f17 55 (by decide)) 15)) ((f193 65 (by decide)).trans (f17 65 (by decide))) hI105
      have I262 : jI106 σ191 := jI106_fr ((f194 32 (by decide)).trans (congrFun (f17 55 (by decide)) 32)) ((f193 70 (by decide)).trans (f17 70 (by decide))) ((f193 71 (by decide)).trans (f17 71 (by decide))) ((f193 72 (by decide)).trans (f17 72 (by decide))) hI106
      have I263 : jI107 σ191 := jI107_fr ((f194 12 (by decide)).trans (congrFun (f17 55 (by decide)) 12)) ((f194 47 (by decide)).trans (congrFun (f17 55 (by decide)) 47)) ((f193 80 (by decide)).trans (f17 80 (by decide))) hI107
      have I264 : jI109 σ191 := jI109_fr ((f194 50 (by decide)).trans (congrFun (f17 55 (by decide)) 50)) hI109
      have I265 : jI110 σ191 := jI110_fr ((f193 86 (by decide)).trans (f17 86 (by decide))) ((f193 87 (by decide)).trans (f17 87 (by decide))) hI110
      have I266 : jI111 σ191 := jI111_fr ((f193 79 (by decide)).trans (f17 79 (by decide))) hI111
      have I267 : jI119 σ191 := jI119_fr ((f193 68 (by decide)).trans (f17 68 (by decide))) hI119
      have p268 : jKept σ191 := jKept.fr ((f193 75 (by decide)).trans (f17 75 (by decide))) ((f193 76 (by decide)).trans (f17 76 (by decide))) ((f193 77 (by decide)).trans (f17 77 (by decide))) hs_jKept
      have p269 : jBook σ191 := jBook.fr ((f194 47 (by decide)).trans (congrFun (f17 55 (by decide)) 47)) ((f194 10 (by decide)).trans (congrFun (f17 55 (by decide)) 10)) ((f193 81 (by decide)).trans (f17 81 (by decide))) hs_jBook
      have z270 : (σ191 38 0).toInt = (σ 38 0).toInt := (congrArg Int32.toInt (show σ191 38 0 = (σ 38 0) from ((congrFun (f193 38 (by decide)) 0).trans (congrFun (f17 38 (by decide)) 0))))
      have z271 : (σ191 55 32).toInt = (σ 55 32).toInt := (congrArg Int32.toInt (show σ191 55 32 = (σ 55 32) from ((f194 32 (by decide)).trans (congrFun (f17 55 (by decide)) 32))))
      have z272 : (σ191 38 1).toInt = (σ 38 1).toInt := (congrArg Int32.toInt (show σ191 38 1 = (σ 38 1) from ((congrFun (f193 38 (by decide)) 1).trans (congrFun (f17 38 (by decide)) 1))))
      have z273 : (σ191 55 55).toInt = (σ 55 55).toInt := (congrArg Int32.toInt (show σ191 55 55 = (σ 55 55) from ((f194 55 (by decide)).trans (congrFun (f17 55 (by decide)) 55))))
      exact ih x247 σ191 τ _ _ ls (by have h9 := tx247; omega) ⟨I248, I249, I250, I251, I252, I253, I254, I255, I256, I257, I258, I195, I196, I259, I260, I261, I262, I263, I264, I265, I266, I267, p268, p269, (by omega), (by omega), (show jKd (σ191 39) (σ191 70) (σ191 55 32).toInt by rw [show σ191 39 = σ 39 from ((f193 39 (by decide)).trans (f17 39 (by decide))), show σ191 70 = σ 70 from ((f193 70 (by decide)).trans (f17 70 (by decide))), show (σ191 55 32).toInt = (σ 55 32).toInt from by omega]; exact hr0), (show jTt (σ191 42) (σ191 85) (σ191 55 55).toInt by rw [show σ191 42 = σ 42 from ((f193 42 (by decide)).trans (f17 42 (by decide))), show σ191 85 = σ 85 from ((f193 85 (by decide)).trans (f17 85 (by decide))), show (σ191 55 55).toInt = (σ 55 55).toInt from by omega]; exact hr1)⟩ hP hS (lv_sub hl [0, 1, 2, 3] rfl)
set_option maxHeartbeats 4000000 in
set_option maxRecDepth 100000 in
theorem law_case_1 {p : Program} {e : Env} {s : State} {m : MethodId} {below : List Frame} {meth : Method} {c : Code} (l : Launch) {b L : Nat} {xs : Nat → Int32} {D : va_G} {cI cL : ClassId} {ad zz : Nat → Nat} (C0 : lw_At p s m meth c b L xs) (hJ : jD ad) (hA : ∀ q, jA ad q → s.heap.size ≤ q) (hK : jK D cI cL s) (hZ : jZ zz (fun q : Nat => s.heap.size ≤ q) s s.heap) {x0 : Int32} (hx0 : 0 ≤ x0.toInt) (hxL : x0.toInt + 6 ≤ (L : Int)) (hL : L ≤ 384) {σ : Nat → Nat → Int32} {τ : Nat → Nat → Int64} {H : Heap} {locs : List Loc} (hS : va_S (fun q : Nat => s.heap.size ≤ q) s.heap H locs) {ls : Array Slot} (hAll : jAll σ τ) (hP : jH D cI cL ad σ τ H) (hl : lv_has ls 4 [(3, .int x0), (2, .ref (ad 55)), (1, .ref (ad 0)), (0, .ref b)]) (ih : ∀ (x1 : Int32) (σ : Nat → Nat → Int32) (τ : Nat → Nat → Int64) (H : Heap) (locs : List Loc) (ls : Array Slot), x1.toInt = x0.toInt + 6 → jAll σ τ → jH D cI cL ad σ τ H → va_S (fun q : Nat => s.heap.size ≤ q) s.heap H locs → lv_has ls 4 [(3, .int x1), (2, .ref (ad 55)), (1, .ref (ad 0)), (0, .ref b)] → W p l e room_1 s m #[Value.ref b] below meth c H locs 90 348600 (lw_Z below #[Value.ref b] s) (F0 m 18 ls [])) : W p l e room_1 s m #[Value.ref b] below meth c H locs 90 348600 (lw_Z below #[Value.ref b] s) (F0 m 239 ls []) := by
  obtain ⟨hx, hb, hr, hml, hown, hts0, hX, hbl, hlocks, hgv⟩ := C0
  have hts : ∀ w ∈ wsL_law, w.before #[Value.ref b] s = true := fun w h => hts0 w (wsL_law_in w h)
  have hbA : ¬ (fun q : Nat => s.heap.size ≤ q) b := Nat.not_le.mpr hbl
  have hown : s.vm.findClass RL = some m.cls := hown
  obtain ⟨hI2, hI9, hI12, hI16, hI18, hI22, hI31, hI38, hI43, hI47, hI50, hI101, hI102, hI103, hI104, hI105, hI106, hI107, hI109, hI110, hI111, hI119, hs_jKept, hs_jBook, ht0, ht1, hr0, hr1⟩ := hAll
  have hL9 : (L : Int) ≤ 384 := by omega
  obtain ⟨i1, i2, w3⟩ : (0 ≤ (σ 38 0).toInt ∧ (σ 38 0).toInt ≤ 20) ∧ (0 ≤ (σ 38 1).toInt ∧ (σ 38 1).toInt ≤ 1000) ∧ (∀ k : Nat, k < 20 → 0 ≤ (σ 39 k).toInt ∧ (σ 39 k).toInt ≤ 6) := id hI38
  obtain ⟨i4, w5, w6, w7⟩ : (0 ≤ (σ 55 32).toInt ∧ (σ 55 32).toInt ≤ 20) ∧ (∀ k : Nat, k < 20 → 0 ≤ (σ 70 k).toInt ∧ (σ 70 k).toInt ≤ 6) ∧ (∀ k : Nat, k < 20 → 0 ≤ (σ 71 k).toInt ∧ (σ 71 k).toInt ≤ 8) ∧ (∀ k : Nat, k < 160 → 0 ≤ (σ 72 k).toInt ∧ (σ 72 k).toInt ≤ 3) := id hI106
  refine lv_aload_n hx hb dL_law_239 rfl (lv_at hl 2 rfl) ?_
  refine lv_aload_n hx hb dL_law_240 rfl (lv_at hl 3 rfl) ?_
  refine lv_iload_n hx hb dL_law_241 rfl (lv_at hl 0 rfl) ?_
  refine lv_iconst (v := 1) hx hb dL_law_242 (by decide) ?_
  have g8 := jrg (rfl : x0.toInt = x0.toInt)
  refine lv_iadd hx hb dL_law_243 ?_
  refine lv_topi (fun x9 ex9 => ?_)
  have tx9 : x9.toInt = x0.toInt + 1 := (jadd ex9 rfl jz_1 (by omega) (by omega)).trans (by omega)
  refine va_sld hx hb hX hbl hbA hS (jin tx9 (by omega) (by omega)) dL_law_244 ?_
  have g10 := jrg (rfl : (xs x9.toNatClampNeg).toInt = (xs x9.toNatClampNeg).toInt)
  refine lv_aload_n hx hb dL_law_245 rfl (lv_at hl 3 rfl) ?_
  refine lv_iload_n hx hb dL_law_246 rfl (lv_at hl 0 rfl) ?_
  refine lv_iconst (v := 2) hx hb dL_law_247 (by decide) ?_
  refine lv_iadd hx hb dL_law_248 ?_
  refine lv_topi (fun x11 ex11 => ?_)
  have tx11 : x11.toInt = x0.toInt + 2 := (jadd ex11 rfl jz_2 (by omega) (by omega)).trans (by omega)
  refine va_sld hx hb hX hbl hbA hS (jin tx11 (by omega) (by omega)) dL_law_249 ?_
  have g12 := jrg (rfl : (xs x11.toNatClampNeg).toInt = (xs x11.toNatClampNeg).toInt)
  refine lv_aload_n hx hb dL_law_250 rfl (lv_at hl 3 rfl) ?_
  refine lv_iload_n hx hb dL_law_251 rfl (lv_at hl 0 rfl) ?_
  refine lv_iconst (v := 3) hx hb dL_law_252 (by decide) ?_
  refine lv_iadd hx hb dL_law_253 ?_
  refine lv_topi (fun x13 ex13 => ?_)
  have tx13 : x13.toInt = x0.toInt + 3 := (jadd ex13 rfl jz_3 (by omega) (by omega)).trans (by omega)
  refine va_sld hx hb hX hbl hbA hS (jin tx13 (by omega) (by omega)) dL_law_254 ?_
  have g14 := jrg (rfl : (xs x13.toNatClampNeg).toInt = (xs x13.toNatClampNeg).toInt)
  refine jcallV (As := [.int (xs x9.toNatClampNeg), .int (xs x11.toNatClampNeg), .int (xs x13.toNatClampNeg)]) (rest := []) ⟨hx, hb, hml, hown, hts⟩ hK hP hA hS hZ (c_X11_edge l D cI cL ad zz hJ σ τ (xs x9.toNatClampNeg) ((xs x9.toNatClampNeg).toInt) rfl (xs x11.toNatClampNeg) ((xs x11.toNatClampNeg).toInt) rfl (xs x13.toNatClampNeg) ((xs x13.toNatClampNeg).toInt) rfl hI2) cw_RL_18 (jc_0 cI cL ad σ τ) rfl ⟨Nat.le_of_ble_eq_true rfl, Nat.le_of_ble_eq_true rfl⟩ rfl rfl rfl hl.1 rfl (Nat.le_of_ble_eq_true rfl) dL_law_255 ⟨Nat.le_of_ble_eq_true rfl, Nat.le_of_ble_eq_true rfl⟩ (fun r16 σ15 τ15 H locs h15 hP hS => ?_)
  obtain ⟨rfl, f17, f18, I19, h15⟩ := h15
  rcases h15 with h21 | h22
  · obtain ⟨q27, k23, k24, k25, k26⟩ := h21
    have q27 := q27.symm
    subst q27
    refine lv_pop hx hb dL_law_258 rfl ?_
    refine lv_aload_n hx hb dL_law_259 rfl (lv_at hl 1 rfl) ?_
    refine lv_aload_n hx hb dL_law_260 rfl (lv_at hl 3 rfl) ?_
    refine lv_iload_n hx hb dL_law_261 rfl (lv_at hl 0 rfl) ?_
    refine lv_iconst (v := 1) hx hb dL_law_262 (by decide) ?_
    refine lv_iadd hx hb dL_law_263 ?_
    refine jtopr ex9.symm ?_
    refine va_sld hx hb hX hbl hbA hS (jin tx9 (by omega) (by omega)) dL_law_264 ?_
    refine lv_aload_n hx hb dL_law_265 rfl (lv_at hl 3 rfl) ?_
    refine lv_iload_n hx hb dL_law_266 rfl (lv_at hl 0 rfl) ?_
    refine lv_iconst (v := 2) hx hb dL_law_267 (by decide) ?_
    refine lv_iadd hx hb dL_law_268 ?_
    refine jtopr ex11.symm ?_
    refine va_sld hx hb hX hbl hbA hS (jin tx11 (by omega) (by omega)) dL_law_269 ?_
    refine lv_aload_n hx hb dL_law_270 rfl (lv_at hl 3 rfl) ?_
    refine lv_iload_n hx hb dL_law_271 rfl (lv_at hl 0 rfl) ?_
    refine lv_iconst (v := 3) hx hb dL_law_272 (by decide) ?_
    refine lv_iadd hx hb dL_law_273 ?_
    refine jtopr ex13.symm ?_
    refine va_sld hx hb hX hbl hbA hS (jin tx13 (by omega) (by omega)) dL_law_274 ?_
    have I28 : jI101 σ15 := jI101_fr (congrFun (f17 55 (by decide)) 4) (congrFun (f17 55 (by decide)) 5) (f17 56 (by decide)) (f17 57 (by decide)) (f17 58 (by decide)) (f17 59 (by decide)) hI101
    have I29 : jI102 σ15 := jI102_fr (congrFun (f17 55 (by decide)) 6) (f17 60 (by decide)) (f17 61 (by decide)) hI102
    have z30 : (σ15 55 5).toInt = (σ 55 5).toInt := (congrArg Int32.toInt (show σ15 55 5 = (σ 55 5) from (congrFun (f17 55 (by decide)) 5)))
    have z31 : (σ15 55 4).toInt = (σ 55 4).toInt := (congrArg Int32.toInt (show σ15 55 4 = (σ 55 4) from (congrFun (f17 55 (by decide)) 4)))
    refine jcallV (As := [.int (xs x9.toNatClampNeg), .int (xs x11.toNatClampNeg), .int (xs x13.toNatClampNeg)]) (rest := []) ⟨hx, hb, hml, hown, hts⟩ hK hP hA hS hZ (c_X12_edge l D cI cL ad zz hJ σ15 τ (xs x9.toNatClampNeg) ((xs x9.toNatClampNeg).toInt) rfl (xs x11.toNatClampNeg) ((xs x11.toNatClampNeg).toInt) rfl (xs x13.toNatClampNeg) ((xs x13.toNatClampNeg).toInt) rfl I28 I29) cw_RL_21 (jc_55 cI cL ad σ15 τ) rfl ⟨Nat.le_of_ble_eq_true rfl, Nat.le_of_ble_eq_true rfl⟩ rfl rfl rfl hl.1 rfl (Nat.le_of_ble_eq_true rfl) dL_law_275 ⟨Nat.le_of_ble_eq_true rfl, Nat.le_of_ble_eq_true rfl⟩ (fun r33 σ32 τ32 H locs h32 hP hS => ?_)
    obtain ⟨rfl, f34, f35, I36, h32⟩ := h32
    rcases h32 with h38 | h39
    · obtain ⟨q44, k40, k41, k42, k43⟩ := h38
      have q44 := q44.symm
      subst q44
      refine lv_pop hx hb dL_law_278 rfl ?_
      refine lv_goto (tgt := 1357) hx hb dL_law_279 (by decide) ?_
      obtain ⟨x45, ex45⟩ : ∃ y : Int32, y = x0 + 6 := ⟨_, rfl⟩
      have tx45 : x45.toInt = x0.toInt + 6 := (jadd ex45 rfl jz_6 (by omega) (by omega)).trans (by omega)
      refine lv_iinc (v := x45) (lv' := [(3, .int x45), (2, .ref (ad 55)), (1, .ref (ad 0)), (0, .ref b)]) hx hb dL_law_1357 hl (k := 0) rfl (by rw [ex45]; rfl) (by decide) rfl (fun ls hl => ?_)
      refine lv_goto (tgt := 18) hx hb dL_law_1360 (by decide) ?_
      have I46 : jI2 σ32 := jI2_fr (congrFun (f34 2 (by decide)) 0) (congrFun (f34 2 (by decide)) 1) (congrFun (f34 2 (by decide)) 2) (congrFun (f34 2 (by decide)) 3) (f34 6 (by decide)) I19
      have I47 : jI9 σ32 := jI9_fr ((congrFun (f34 9 (by decide)) 0).trans (congrFun (f17 9 (by decide)) 0)) ((f34 10 (by decide)).trans (f17 10 (by decide))) ((f34 11 (by decide)).trans (f17 11 (by decide))) hI9
      have I48 : jI12 σ32 := jI12_fr ((congrFun (f34 12 (by decide)) 0).trans (congrFun (f17 12 (by decide)) 0)) ((f34 13 (by decide)).trans (f17 13 (by decide))) hI12
      have I49 : jI16 σ32 := jI16_fr ((congrFun (f34 16 (by decide)) 0).trans (congrFun (f17 16 (by decide)) 0)) ((congrFun (f34 16 (by decide)) 1).trans (congrFun (f17 16 (by decide)) 1)) ((congrFun (f34 16 (by decide)) 2).trans (congrFun (f17 16 (by decide)) 2)) ((f34 17 (by decide)).trans (f17 17 (by decide))) hI16
      have I50 : jI18 σ32 := jI18_fr ((congrFun (f34 18 (by decide)) 0).trans (congrFun (f17 18 (by decide)) 0)) ((f34 19 (by decide)).trans (f17 19 (by decide))) hI18
      have I51 : jI22 σ32 := jI22_fr ((congrFun (f34 22 (by decide)) 0).trans (congrFun (f17 22 (by decide)) 0)) ((f34 23 (by decide)).trans (f17 23 (by decide))) hI22
      have I52 : jI31 σ32 := jI31_fr ((congrFun (f34 31 (by decide)) 8).trans (congrFun (f17 31 (by decide)) 8)) ((f34 33 (by decide)).trans (f17 33 (by decide))) ((f34 36 (by decide)).trans (f17 36 (by decide))) hI31
      have I53 : jI38 σ32 := jI38_fr ((congrFun (f34 38 (by decide)) 0).trans (congrFun (f17 38 (by decide)) 0)) ((congrFun (f34 38 (by decide)) 1).trans (congrFun (f17 38 (by decide)) 1)) ((f34 39 (by decide)).trans (f17 39 (by decide))) hI38
      have I54 : jI43 σ32 := jI43_fr ((congrFun (f34 43 (by decide)) 8).trans (congrFun (f17 43 (by decide)) 8)) hI43
      have I55 : jI47 σ32 := jI47_fr ((congrFun (f34 47 (by decide)) 0).trans (congrFun (f17 47 (by decide)) 0)) ((f34 48 (by decide)).trans (f17 48 (by decide))) ((f34 49 (by decide)).trans (f17 49 (by decide))) hI47
      have I56 : jI50 σ32 := jI50_fr ((f34 52 (by decide)).trans (f17 52 (by decide))) hI50
      have I57 : jI102 σ32 := jI102_fr (f35 6 (by decide)) (f34 60 (by decide)) (f34 61 (by decide)) I29
      have I58 : jI103 σ32 := jI103_fr ((f35 9 (by decide)).trans (congrFun (f17 55 (by decide)) 9)) hI103
      have I59 : jI104 σ32 := jI104_fr ((f35 10 (by decide)).trans (congrFun (f17 55 (by decide)) 10)) ((f35 12 (by decide)).trans (congrFun (f17 55 (by decide)) 12)) ((f35 13 (by decide)).trans (congrFun (f17 55 (by decide)) 13)) ((f34 62 (by decide)).trans (f17 62 (by decide))) ((f34 67 (by decide)).trans (f17 67 (by decide))) hI104
      have I60 : jI105 σ32 := jI105_fr ((f35 15 (by decide)).trans (congrFun (f17 55 (by decide)) 15)) ((f34 65 (by decide)).trans (f17 65 (by decide))) hI105
      have I61 : jI106 σ32 := jI106_fr ((f35 32 (by decide)).trans (congrFun (f17 55 (by decide)) 32)) ((f34 70 (by decide)).trans (f17 70 (by decide))) ((f34 71 (by decide)).trans (f17 71 (by decide))) ((f34 72 (by decide)).trans (f17 72 (by decide))) hI106
      have I62 : jI107 σ32 := jI107_fr ((f35 12 (by decide)).trans (congrFun (f17 55 (by decide)) 12)) ((f35 47 (by decide)).trans (congrFun (f17 55 (by decide)) 47)) ((f34 80 (by decide)).trans (f17 80 (by decide))) hI107
      have I63 : jI109 σ32 := jI109_fr ((f35 50 (by decide)).trans (congrFun (f17 55 (by decide)) 50)) hI109
      have I64 : jI110 σ32 := jI110_fr ((f34 86 (by decide)).trans (f17 86 (by decide))) ((f34 87 (by decide)).trans (f17 87 (by decide))) hI110
      have I65 : jI111 σ32 := jI111_fr ((f34 79 (by decide)).trans (f17 79 (by decide))) hI111
      have I66 : jI119 σ32 := jI119_fr ((f34 68 (by decide)).trans (f17 68 (by decide))) hI119
      have p67 : jKept σ32 := jKept.fr ((f34 75 (by decide)).trans (f17 75 (by decide))) ((f34 76 (by decide)).trans (f17 76 (by decide))) ((f34 77 (by decide)).trans (f17 77 (by decide))) hs_jKept
      have p68 : jBook σ32 := jBook.fr ((f35 47 (by decide)).trans (congrFun (f17 55 (by decide)) 47)) ((f35 10 (by decide)).trans (congrFun (f17 55 (by decide)) 10)) ((f34 81 (by decide)).trans (f17 81 (by decide))) hs_jBook
      have z69 : (σ32 38 0).toInt = (σ 38 0).toInt := (congrArg Int32.toInt (show σ32 38 0 = (σ 38 0) from ((congrFun (f34 38 (by decide)) 0).trans (congrFun (f17 38 (by decide)) 0))))
      have z70 : (σ32 55 32).toInt = (σ 55 32).toInt := (congrArg Int32.toInt (show σ32 55 32 = (σ 55 32) from ((f35 32 (by decide)).trans (congrFun (f17 55 (by decide)) 32))))
      have z71 : (σ32 38 1).toInt = (σ 38 1).toInt := (congrArg Int32.toInt (show σ32 38 1 = (σ 38 1) from ((congrFun (f34 38 (by decide)) 1).trans (congrFun (f17 38 (by decide)) 1))))
      have z72 : (σ32 55 55).toInt = (σ 55 55).toInt := (congrArg Int32.toInt (show σ32 55 55 = (σ 55 55) from ((f35 55 (by decide)).trans (congrFun (f17 55 (by decide)) 55))))
      exact ih x45 σ32 τ _ _ ls (by have h9 := tx45; omega) ⟨I46, I47, I48, I49, I50, I51, I52, I53, I54, I55, I56, I36, I57, I58, I59, I60, I61, I62, I63, I64, I65, I66, p67, p68, (by omega), (by omega), (show jKd (σ32 39) (σ32 70) (σ32 55 32).toInt by rw [show σ32 39 = σ 39 from ((f34 39 (by decide)).trans (f17 39 (by decide))), show σ32 70 = σ 70 from ((f34 70 (by decide)).trans (f17 70 (by decide))), show (σ32 55 32).toInt = (σ 55 32).toInt from by omega]; exact hr0), (show jTt (σ32 42) (σ32 85) (σ32 55 55).toInt by rw [show σ32 42 = σ 42 from ((f34 42 (by decide)).trans (f17 42 (by decide))), show σ32 85 = σ 85 from ((f34 85 (by decide)).trans (f17 85 (by decide))), show (σ32 55 55).toInt = (σ 55 55).toInt from by omega]; exact hr1)⟩ hP hS (lv_sub hl [0, 1, 2, 3] rfl)
    · obtain ⟨q74, k73⟩ := h39
      refine lv_pop hx hb dL_law_278 rfl ?_
      refine lv_goto (tgt := 1357) hx hb dL_law_279 (by decide) ?_
      obtain ⟨x75, ex75⟩ : ∃ y : Int32, y = x0 + 6 := ⟨_, rfl⟩
      have tx75 : x75.toInt = x0.toInt + 6 := (jadd ex75 rfl jz_6 (by omega) (by omega)).trans (by omega)
      refine lv_iinc (v := x75) (lv' := [(3, .int x75), (2, .ref (ad 55)), (1, .ref (ad 0)), (0, .ref b)]) hx hb dL_law_1357 hl (k := 0) rfl (by rw [ex75]; rfl) (by decide) rfl (fun ls hl => ?_)
      refine lv_goto (tgt := 18) hx hb dL_law_1360 (by decide) ?_
      have I76 : jI2 σ32 := jI2_fr (congrFun (f34 2 (by decide)) 0) (congrFun (f34 2 (by decide)) 1) (congrFun (f34 2 (by decide)) 2) (congrFun (f34 2 (by decide)) 3) (f34 6 (by decide)) I19
      have I77 : jI9 σ32 := jI9_fr ((congrFun (f34 9 (by decide)) 0).trans (congrFun (f17 9 (by decide)) 0)) ((f34 10 (by decide)).trans (f17 10 (by decide))) ((f34 11 (by decide)).trans (f17 11 (by decide))) hI9
      have I78 : jI12 σ32 := jI12_fr ((congrFun (f34 12 (by decide)) 0).trans (congrFun (f17 12 (by decide)) 0)) ((f34 13 (by decide)).trans (f17 13 (by decide))) hI12
      have I79 : jI16 σ32 := jI16_fr ((congrFun (f34 16 (by decide)) 0).trans (congrFun (f17 16 (by decide)) 0)) ((congrFun (f34 16 (by decide)) 1).trans (congrFun (f17 16 (by decide)) 1)) ((congrFun (f34 16 (by decide)) 2).trans (congrFun (f17 16 (by decide)) 2)) ((f34 17 (by decide)).trans (f17 17 (by decide))) hI16
      have I80 : jI18 σ32 := jI18_fr ((congrFun (f34 18 (by decide)) 0).trans (congrFun (f17 18 (by decide)) 0)) ((f34 19 (by decide)).trans (f17 19 (by decide))) hI18
      have I81 : jI22 σ32 := jI22_fr ((congrFun (f34 22 (by decide)) 0).trans (congrFun (f17 22 (by decide)) 0)) ((f34 23 (by decide)).trans (f17 23 (by decide))) hI22
      have I82 : jI31 σ32 := jI31_fr ((congrFun (f34 31 (by decide)) 8).trans (congrFun (f17 31 (by decide)) 8)) ((f34 33 (by decide)).trans (f17 33 (by decide))) ((f34 36 (by decide)).trans (f17 36 (by decide))) hI31
      have I83 : jI38 σ32 := jI38_fr ((congrFun (f34 38 (by decide)) 0).trans (congrFun (f17 38 (by decide)) 0)) ((congrFun (f34 38 (by decide)) 1).trans (congrFun (f17 38 (by decide)) 1)) ((f34 39 (by decide)).trans (f17 39 (by decide))) hI38
      have I84 : jI43 σ32 := jI43_fr ((congrFun (f34 43 (by decide)) 8).trans (congrFun (f17 43 (by decide)) 8)) hI43
      have I85 : jI47 σ32 := jI47_fr ((congrFun (f34 47 (by decide)) 0).trans (congrFun (f17 47 (by decide)) 0)) ((f34 48 (by decide)).trans (f17 48 (by decide))) ((f34 49 (by decide)).trans (f17 49 (by decide))) hI47
      have I86 : jI50 σ32 := jI50_fr ((f34 52 (by decide)).trans (f17 52 (by decide))) hI50
      have I87 : jI102 σ32 := jI102_fr (f35 6 (by decide)) (f34 60 (by decide)) (f34 61 (by decide)) I29
      have I88 : jI103 σ32 := jI103_fr ((f35 9 (by decide)).trans (congrFun (f17 55 (by decide)) 9)) hI103
      have I89 : jI104 σ32 := jI104_fr ((f35 10 (by decide)).trans (congrFun (f17 55 (by decide)) 10)) ((f35 12 (by decide)).trans (congrFun (f17 55 (by decide)) 12)) ((f35 13 (by decide)).trans (congrFun (f17 55 (by decide)) 13)) ((f34 62 (by decide)).trans (f17 62 (by decide))) ((f34 67 (by decide)).trans (f17 67 (by decide))) hI104
      have I90 : jI105 σ32 := jI105_fr ((f35 15 (by decide)).trans (congrFun (f17 55 (by decide)) 15)) ((f34 65 (by decide)).trans (f17 65 (by decide))) hI105
      have I91 : jI106 σ32 := jI106_fr ((f35 32 (by decide)).trans (congrFun (f17 55 (by decide)) 32)) ((f34 70 (by decide)).trans (f17 70 (by decide))) ((f34 71 (by decide)).trans (f17 71 (by decide))) ((f34 72 (by decide)).trans (f17 72 (by decide))) hI106
      have I92 : jI107 σ32 := jI107_fr ((f35 12 (by decide)).trans (congrFun (f17 55 (by decide)) 12)) ((f35 47 (by decide)).trans (congrFun (f17 55 (by decide)) 47)) ((f34 80 (by decide)).trans (f17 80 (by decide))) hI107
      have I93 : jI109 σ32 := jI109_fr ((f35 50 (by decide)).trans (congrFun (f17 55 (by decide)) 50)) hI109
      have I94 : jI110 σ32 := jI110_fr ((f34 86 (by decide)).trans (f17 86 (by decide))) ((f34 87 (by decide)).trans (f17 87 (by decide))) hI110
      have I95 : jI111 σ32 := jI111_fr ((f34 79 (by decide)).trans (f17 79 (by decide))) hI111
      have I96 : jI119 σ32 := jI119_fr ((f34 68 (by decide)).trans (f17 68 (by decide))) hI119
      have p97 : jKept σ32 := jKept.fr ((f34 75 (by decide)).trans (f17 75 (by decide))) ((f34 76 (by decide)).trans (f17 76 (by decide))) ((f34 77 (by decide)).trans (f17 77 (by decide))) hs_jKept
      have p98 : jBook σ32 := jBook.fr ((f35 47 (by decide)).trans (congrFun (f17 55 (by decide)) 47)) ((f35 10 (by decide)).trans (congrFun (f17 55 (by decide)) 10)) ((f34 81 (by decide)).trans (f17 81 (by decide))) hs_jBook
      have z99 : (σ32 38 0).toInt = (σ 38 0).toInt := (congrArg Int32.toInt (show σ32 38 0 = (σ 38 0) from ((congrFun (f34 38 (by decide)) 0).trans (congrFun (f17 38 (by decide)) 0))))
      have z100 : (σ32 55 32).toInt = (σ 55 32).toInt := (congrArg Int32.toInt (show σ32 55 32 = (σ 55 32) from ((f35 32 (by decide)).trans (congrFun (f17 55 (by decide)) 32))))
      have z101 : (σ32 38 1).toInt = (σ 38 1).toInt := (congrArg Int32.toInt (show σ32 38 1 = (σ 38 1) from ((congrFun (f34 38 (by decide)) 1).trans (congrFun (f17 38 (by decide)) 1))))
      have z102 : (σ32 55 55).toInt = (σ 55 55).toInt := (congrArg Int32.toInt (show σ32 55 55 = (σ 55 55) from ((f35 55 (by decide)).trans (congrFun (f17 55 (by decide)) 55))))
      exact ih x75 σ32 τ _ _ ls (by have h9 := tx75; omega) ⟨I76, I77, I78, I79, I80, I81, I82, I83, I84, I85, I86, I36, I87, I88, I89, I90, I91, I92, I93, I94, I95, I96, p97, p98, (by omega), (by omega), (show jKd (σ32 39) (σ32 70) (σ32 55 32).toInt by rw [show σ32 39 = σ 39 from ((f34 39 (by decide)).trans (f17 39 (by decide))), show σ32 70 = σ 70 from ((f34 70 (by decide)).trans (f17 70 (by decide))), show (σ32 55 32).toInt = (σ 55 32).toInt from by omega]; exact hr0), (show jTt (σ32 42) (σ32 85) (σ32 55 55).toInt by rw [show σ32 42 = σ 42 from ((f34 42 (by decide)).trans (f17 42 (by decide))), show σ32 85 = σ 85 from ((f34 85 (by decide)).trans (f17 85 (by decide))), show (σ32 55 55).toInt = (σ 55 55).toInt from by omega]; exact hr1)⟩ hP hS (lv_sub hl [0, 1, 2, 3] rfl)
  · obtain ⟨q104, k103⟩ := h22
    refine lv_pop hx hb dL_law_258 rfl ?_
    refine lv_aload_n hx hb dL_law_259 rfl (lv_at hl 1 rfl) ?_
    refine lv_aload_n hx hb dL_law_260 rfl (lv_at hl 3 rfl) ?_
    refine lv_iload_n hx hb dL_law_261 rfl (lv_at hl 0 rfl) ?_
    refine lv_iconst (v := 1) hx hb dL_law_262 (by decide) ?_
    refine lv_iadd hx hb dL_law_263 ?_
    refine jtopr ex9.symm ?_
    refine va_sld hx hb hX hbl hbA hS (jin tx9 (by omega) (by omega)) dL_law_264 ?_
    refine lv_aload_n hx hb dL_law_265 rfl (lv_at hl 3 rfl) ?_
    refine lv_iload_n hx hb dL_law_266 rfl (lv_at hl 0 rfl) ?_
    refine lv_iconst (v := 2) hx hb dL_law_267 (by decide) ?_
    refine lv_iadd hx hb dL_law_268 ?_
    refine jtopr ex11.symm ?_
    refine va_sld hx hb hX hbl hbA hS (jin tx11 (by omega) (by omega)) dL_law_269 ?_
    refine lv_aload_n hx hb dL_law_270 rfl (lv_at hl 3 rfl) ?_
    refine lv_iload_n hx hb dL_law_271 rfl (lv_at hl 0 rfl) ?_
    refine lv_iconst (v := 3) hx hb dL_law_272 (by decide) ?_
    refine lv_iadd hx hb dL_law_273 ?_
    refine jtopr ex13.symm ?_
    refine va_sld hx hb hX hbl hbA hS (jin tx13 (by omega) (by omega)) dL_law_274 ?_
    have I105 : jI101 σ15 := jI101_fr (congrFun (f17 55 (by decide)) 4) (congrFun (f17 55 (by decide)) 5) (f17 56 (by decide)) (f17 57 (by decide)) (f17 58 (by decide)) (f17 59 (by decide)) hI101
    have I106 : jI102 σ15 := jI102_fr (congrFun (f17 55 (by decide)) 6) (f17 60 (by decide)) (f17 61 (by decide)) hI102
    have z107 : (σ15 55 5).toInt = (σ 55 5).toInt := (congrArg Int32.toInt (show σ15 55 5 = (σ 55 5) from (congrFun (f17 55 (by decide)) 5)))
    have z108 : (σ15 55 4).toInt = (σ 55 4).toInt := (congrArg Int32.toInt (show σ15 55 4 = (σ 55 4) from (congrFun (f17 55 (by decide)) 4)))
    refine jcallV (As := [.int (xs x9.toNatClampNeg), .int (xs x11.toNatClampNeg), .int (xs x13.toNatClampNeg)]) (rest := []) ⟨hx, hb, hml, hown, hts⟩ hK hP hA hS hZ (c_X12_edge l D cI cL ad zz hJ σ15 τ (xs x9.toNatClampNeg) ((xs x9.toNatClampNeg).toInt) rfl (xs x11.toNatClampNeg) ((xs x11.toNatClampNeg).toInt) rfl (xs x13.toNatClampNeg) ((xs x13.toNatClampNeg).toInt) rfl I105 I106) cw_RL_21 (jc_55 cI cL ad σ15 τ) rfl ⟨Nat.le_of_ble_eq_true rfl, Nat.le_of_ble_eq_true rfl⟩ rfl rfl rfl hl.1 rfl (Nat.le_of_ble_eq_true rfl) dL_law_275 ⟨Nat.le_of_ble_eq_true rfl, Nat.le_of_ble_eq_true rfl⟩ (fun r110 σ109 τ109 H locs h109 hP hS => ?_)
    obtain ⟨rfl, f111, f112, I113, h109⟩ := h109
    rcases h109 with h115 | h116
    · obtain ⟨q121, k117, k118, k119, k120⟩ := h115
      have q121 := q121.symm
      subst q121
      refine lv_pop hx hb dL_law_278 rfl ?_
      refine lv_goto (tgt := 1357) hx hb dL_law_279 (by decide) ?_
      obtain ⟨x122, ex122⟩ : ∃ y : Int32, y = x0 + 6 := ⟨_, rfl⟩
      have tx122 : x122.toInt = x0.toInt + 6 := (jadd ex122 rfl jz_6 (by omega) (by omega)).trans (by omega)
      refine lv_iinc (v := x122) (lv' := [(3, .int x122), (2, .ref (ad 55)), (1, .ref (ad 0)), (0, .ref b)]) hx hb dL_law_1357 hl (k := 0) rfl (by rw [ex122]; rfl) (by decide) rfl (fun ls hl => ?_)
      refine lv_goto (tgt := 18) hx hb dL_law_1360 (by decide) ?_
      have I123 : jI2 σ109 := jI2_fr (congrFun (f111 2 (by decide)) 0) (congrFun (f111 2 (by decide)) 1) (congrFun (f111 2 (by decide)) 2) (congrFun (f111 2 (by decide)) 3) (f111 6 (by decide)) I19
      have I124 : jI9 σ109 := jI9_fr ((congrFun (f111 9 (by decide)) 0).trans (congrFun (f17 9 (by decide)) 0)) ((f111 10 (by decide)).trans (f17 10 (by decide))) ((f111 11 (by decide)).trans (f17 11 (by decide))) hI9
      have I125 : jI12 σ109 := jI12_fr ((congrFun (f111 12 (by decide)) 0).trans (congrFun (f17 12 (by decide)) 0)) ((f111 13 (by decide)).trans (f17 13 (by decide))) hI12
      have I126 : jI16 σ109 := jI16_fr ((congrFun (f111 16 (by decide)) 0).trans (congrFun (f17 16 (by decide)) 0)) ((congrFun (f111 16 (by decide)) 1).trans (congrFun (f17 16 (by decide)) 1)) ((congrFun (f111 16 (by decide)) 2).trans (congrFun (f17 16 (by decide)) 2)) ((f111 17 (by decide)).trans (f17 17 (by decide))) hI16
      have I127 : jI18 σ109 := jI18_fr ((congrFun (f111 18 (by decide)) 0).trans (congrFun (f17 18 (by decide)) 0)) ((f111 19 (by decide)).trans (f17 19 (by decide))) hI18
      have I128 : jI22 σ109 := jI22_fr ((congrFun (f111 22 (by decide)) 0).trans (congrFun (f17 22 (by decide)) 0)) ((f111 23 (by decide)).trans (f17 23 (by decide))) hI22
      have I129 : jI31 σ109 := jI31_fr ((congrFun (f111 31 (by decide)) 8).trans (congrFun (f17 31 (by decide)) 8)) ((f111 33 (by decide)).trans (f17 33 (by decide))) ((f111 36 (by decide)).trans (f17 36 (by decide))) hI31
      have I130 : jI38 σ109 := jI38_fr ((congrFun (f111 38 (by decide)) 0).trans (congrFun (f17 38 (by decide)) 0)) ((congrFun (f111 38 (by decide)) 1).trans (congrFun (f17 38 (by decide)) 1)) ((f111 39 (by decide)).trans (f17 39 (by decide))) hI38
      have I131 : jI43 σ109 := jI43_fr ((congrFun (f111 43 (by decide)) 8).trans (congrFun (f17 43 (by decide)) 8)) hI43
      have I132 : jI47 σ109 := jI47_fr ((congrFun (f111 47 (by decide)) 0).trans (congrFun (f17 47 (by decide)) 0)) ((f111 48 (by decide)).trans (f17 48 (by decide))) ((f111 49 (by decide)).trans (f17 49 (by decide))) hI47
      have I133 : jI50 σ109 := jI50_fr ((f111 52 (by decide)).trans (f17 52 (by decide))) hI50
      have I134 : jI102 σ109 := jI102_fr (f112 6 (by decide)) (f111 60 (by decide)) (f111 61 (by decide)) I106
      have I135 : jI103 σ109 := jI103_fr ((f112 9 (by decide)).trans (congrFun (f17 55 (by decide)) 9)) hI103
      have I136 : jI104 σ109 := jI104_fr ((f112 10 (by decide)).trans (congrFun (f17 55 (by decide)) 10)) ((f112 12 (by decide)).trans (congrFun (f17 55 (by decide)) 12)) ((f112 13 (by decide)).trans (congrFun (f17 55 (by decide)) 13)) ((f111 62 (by decide)).trans (f17 62 (by decide))) ((f111 67 (by decide)).trans (f17 67 (by decide))) hI104
      have I137 : jI105 σ109 := jI105_fr ((f112 15 (by decide)).trans (congrFun (f17 55 (by decide)) 15)) ((f111 65 (by decide)).trans (f17 65 (by decide))) hI105
      have I138 : jI106 σ109 := jI106_fr ((f112 32 (by decide)).trans (congrFun (f17 55 (by decide)) 32)) ((f111 70 (by decide)).trans (f17 70 (by decide))) ((f111 71 (by decide)).trans (f17 71 (by decide))) ((f111 72 (by decide)).trans (f17 72 (by decide))) hI106
      have I139 : jI107 σ109 := jI107_fr ((f112 12 (by decide)).trans (congrFun (f17 55 (by decide)) 12)) ((f112 47 (by decide)).trans (congrFun (f17 55 (by decide)) 47)) ((f111 80 (by decide)).trans (f17 80 (by decide))) hI107
      have I140 : jI109 σ109 := jI109_fr ((f112 50 (by decide)).trans (congrFun (f17 55 (by decide)) 50)) hI109
      have I141 : jI110 σ109 := jI110_fr ((f111 86 (by decide)).trans (f17 86 (by decide))) ((f111 87 (by decide)).trans (f17 87 (by decide))) hI110
      have I142 : jI111 σ109 := jI111_fr ((f111 79 (by decide)).trans (f17 79 (by decide))) hI111
      have I143 : jI119 σ109 := jI119_fr ((f111 68 (by decide)).trans (f17 68 (by decide))) hI119
      have p144 : jKept σ109 := jKept.fr ((f111 75 (by decide)).trans (f17 75 (by decide))) ((f111 76 (by decide)).trans (f17 76 (by decide))) ((f111 77 (by decide)).trans (f17 77 (by decide))) hs_jKept
      have p145 : jBook σ109 := jBook.fr ((f112 47 (by decide)).trans (congrFun (f17 55 (by decide)) 47)) ((f112 10 (by decide)).trans (congrFun (f17 55 (by decide)) 10)) ((f111 81 (by decide)).trans (f17 81 (by decide))) hs_jBook
      have z146 : (σ109 38 0).toInt = (σ 38 0).toInt := (congrArg Int32.toInt (show σ109 38 0 = (σ 38 0) from ((congrFun (f111 38 (by decide)) 0).trans (congrFun (f17 38 (by decide)) 0))))
      have z147 : (σ109 55 32).toInt = (σ 55 32).toInt := (congrArg Int32.toInt (show σ109 55 32 = (σ 55 32) from ((f112 32 (by decide)).trans (congrFun (f17 55 (by decide)) 32))))
      have z148 : (σ109 38 1).toInt = (σ 38 1).toInt := (congrArg Int32.toInt (show σ109 38 1 = (σ 38 1) from ((congrFun (f111 38 (by decide)) 1).trans (congrFun (f17 38 (by decide)) 1))))
      have z149 : (σ109 55 55).toInt = (σ 55 55).toInt := (congrArg Int32.toInt (show σ109 55 55 = (σ 55 55) from ((f112 55 (by decide)).trans (congrFun (f17 55 (by decide)) 55))))
      exact ih x122 σ109 τ _ _ ls (by have h9 := tx122; omega) ⟨I123, I124, I125, I126, I127, I128, I129, I130, I131, I132, I133, I113, I134, I135, I136, I137, I138, I139, I140, I141, I142, I143, p144, p145, (by omega), (by omega), (show jKd (σ109 39) (σ109 70) (σ109 55 32).toInt by rw [show σ109 39 = σ 39 from ((f111 39 (by decide)).trans (f17 39 (by decide))), show σ109 70 = σ 70 from ((f111 70 (by decide)).trans (f17 70 (by decide))), show (σ109 55 32).toInt = (σ 55 32).toInt from by omega]; exact hr0), (show jTt (σ109 42) (σ109 85) (σ109 55 55).toInt by rw [show σ109 42 = σ 42 from ((f111 42 (by decide)).trans (f17 42 (by decide))), show σ109 85 = σ 85 from ((f111 85 (by decide)).trans (f17 85 (by decide))), show (σ109 55 55).toInt = (σ 55 55).toInt from by omega]; exact hr1)⟩ hP hS (lv_sub hl [0, 1, 2, 3] rfl)
    · obtain ⟨q151, k150⟩ := h116
      refine lv_pop hx hb dL_law_278 rfl ?_
      refine lv_goto (tgt := 1357) hx hb dL_law_279 (by decide) ?_
      obtain ⟨x152, ex152⟩ : ∃ y : Int32, y = x0 + 6 := ⟨_, rfl⟩
      have tx152 : x152.toInt = x0.toInt + 6 := (jadd ex152 rfl jz_6 (by omega) (by omega)).trans (by omega)
      refine lv_iinc (v := x152) (lv' := [(3, .int x152), (2, .ref (ad 55)), (1, .ref (ad 0)), (0, .ref b)]) hx hb dL_law_1357 hl (k := 0) rfl (by rw [ex152]; rfl) (by decide) rfl (fun ls hl => ?_)
      refine lv_goto (tgt := 18) hx hb dL_law_1360 (by decide) ?_
      have I153 : jI2 σ109 := jI2_fr (congrFun (f111 2 (by decide)) 0) (congrFun (f111 2 (by decide)) 1) (congrFun (f111 2 (by decide)) 2) (congrFun (f111 2 (by decide)) 3) (f111 6 (by decide)) I19
      have I154 : jI9 σ109 := jI9_fr ((congrFun (f111 9 (by decide)) 0).trans (congrFun (f17 9 (by decide)) 0)) ((f111 10 (by decide)).trans (f17 10 (by decide))) ((f111 11 (by decide)).trans (f17 11 (by decide))) hI9
      have I155 : jI12 σ109 := jI12_fr ((congrFun (f111 12 (by decide)) 0).trans (congrFun (f17 12 (by decide)) 0)) ((f111 13 (by decide)).trans (f17 13 (by decide))) hI12
      have I156 : jI16 σ109 := jI16_fr ((congrFun (f111 16 (by decide)) 0).trans (congrFun (f17 16 (by decide)) 0)) ((congrFun (f111 16 (by decide)) 1).trans (congrFun (f17 16 (by decide)) 1)) ((congrFun (f111 16 (by decide)) 2).trans (congrFun (f17 16 (by decide)) 2)) ((f111 17 (by decide)).trans (f17 17 (by decide))) hI16
      have I157 : jI18 σ109 := jI18_fr ((congrFun (f111 18 (by decide)) 0).trans (congrFun (f17 18 (by decide)) 0)) ((f111 19 (by decide)).trans (f17 19 (by decide))) hI18
      have I158 : jI22 σ109 := jI22_fr ((congrFun (f111 22 (by decide)) 0).trans (congrFun (f17 22 (by decide)) 0)) ((f111 23 (by decide)).trans (f17 23 (by decide))) hI22
      have I159 : jI31 σ109 := jI31_fr ((congrFun (f111 31 (by decide)) 8).trans (congrFun (f17 31 (by decide)) 8)) ((f111 33 (by decide)).trans (f17 33 (by decide))) ((f111 36 (by decide)).trans (f17 36 (by decide))) hI31
      have I160 : jI38 σ109 := jI38_fr ((congrFun (f111 38 (by decide)) 0).trans (congrFun (f17 38 (by decide)) 0)) ((congrFun (f111 38 (by decide)) 1).trans (congrFun (f17 38 (by decide)) 1)) ((f111 39 (by decide)).trans (f17 39 (by decide))) hI38
      have I161 : jI43 σ109 := jI43_fr ((congrFun (f111 43 (by decide)) 8).trans (congrFun (f17 43 (by decide)) 8)) hI43
      have I162 : jI47 σ109 := jI47_fr ((congrFun (f111 47 (by decide)) 0).trans (congrFun (f17 47 (by decide)) 0)) ((f111 48 (by decide)).trans (f17 48 (by decide))) ((f111 49 (by decide)).trans (f17 49 (by decide))) hI47
      have I163 : jI50 σ109 := jI50_fr ((f111 52 (by decide)).trans (f17 52 (by decide))) hI50
      have I164 : jI102 σ109 := jI102_fr (f112 6 (by decide)) (f111 60 (by decide)) (f111 61 (by decide)) I106
      have I165 : jI103 σ109 := jI103_fr ((f112 9 (by decide)).trans (congrFun (f17 55 (by decide)) 9)) hI103
      have I166 : jI104 σ109 := jI104_fr ((f112 10 (by decide)).trans (congrFun (f17 55 (by decide)) 10)) ((f112 12 (by decide)).trans (congrFun (f17 55 (by decide)) 12)) ((f112 13 (by decide)).trans (congrFun (f17 55 (by decide)) 13)) ((f111 62 (by decide)).trans (f17 62 (by decide))) ((f111 67 (by decide)).trans (f17 67 (by decide))) hI104
      have I167 : jI105 σ109 := jI105_fr ((f112 15 (by decide)).trans (congrFun (f17 55 (by decide)) 15)) ((f111 65 (by decide)).trans (f17 65 (by decide))) hI105
      have I168 : jI106 σ109 := jI106_fr ((f112 32 (by decide)).trans (congrFun (f17 55 (by decide)) 32)) ((f111 70 (by decide)).trans (f17 70 (by decide))) ((f111 71 (by decide)).trans (f17 71 (by decide))) ((f111 72 (by decide)).trans (f17 72 (by decide))) hI106
      have I169 : jI107 σ109 := jI107_fr ((f112 12 (by decide)).trans (congrFun (f17 55 (by decide)) 12)) ((f112 47 (by decide)).trans (congrFun (f17 55 (by decide)) 47)) ((f111 80 (by decide)).trans (f17 80 (by decide))) hI107
      have I170 : jI109 σ109 := jI109_fr ((f112 50 (by decide)).trans (congrFun (f17 55 (by decide)) 50)) hI109
      have I171 : jI110 σ109 := jI110_fr ((f111 86 (by decide)).trans (f17 86 (by decide))) ((f111 87 (by decide)).trans (f17 87 (by decide))) hI110
      have I172 : jI111 σ109 := jI111_fr ((f111 79 (by decide)).trans (f17 79 (by decide))) hI111
      have I173 : jI119 σ109 := jI119_fr ((f111 68 (by decide)).trans (f17 68 (by decide))) hI119
      have p174 : jKept σ109 := jKept.fr ((f111 75 (by decide)).trans (f17 75 (by decide))) ((f111 76 (by decide)).trans (f17 76 (by decide))) ((f111 77 (by decide)).trans (f17 77 (by decide))) hs_jKept
      have p175 : jBook σ109 := jBook.fr ((f112 47 (by decide)).trans (congrFun (f17 55 (by decide)) 47)) ((f112 10 (by decide)).trans (congrFun (f17 55 (by decide)) 10)) ((f111 81 (by decide)).trans (f17 81 (by decide))) hs_jBook
      have z176 : (σ109 38 0).toInt = (σ 38 0).toInt := (congrArg Int32.toInt (show σ109 38 0 = (σ 38 0) from ((congrFun (f111 38 (by decide)) 0).trans (congrFun (f17 38 (by decide)) 0))))
      have z177 : (σ109 55 32).toInt = (σ 55 32).toInt := (congrArg Int32.toInt (show σ109 55 32 = (σ 55 32) from ((f112 32 (by decide)).trans (congrFun (f17 55 (by decide)) 32))))
      have z178 : (σ109 38 1).toInt = (σ 38 1).toInt := (congrArg Int32.toInt (show σ109 38 1 = (σ 38 1) from ((congrFun (f111 38 (by decide)) 1).trans (congrFun (f17 38 (by decide)) 1))))
      have z179 : (σ109 55 55).toInt = (σ 55 55).toInt := (congrArg Int32.toInt (show σ109 55 55 = (σ 55 55) from ((f112 55 (by decide)).trans (congrFun (f17 55 (by decide)) 55))))
      exact ih x152 σ109 τ _ _ ls (by have h9 := tx152; omega) ⟨I153, I154, I155, I156, I157, I158, I159, I160, I161, I162, I163, I113, I164, I165, I166, I167, I168, I169, I170, I171, I172, I173, p174, p175, (by omega), (by omega), (show jKd (σ109 39) (σ109 70) (σ109 55 32).toInt by rw [show σ109 39 = σ 39 from ((f111 39 (by decide)).trans (f17 39 (by decide))), show σ109 70 = σ 70 from ((f111 70 (by decide)).trans (f17 70 (by decide))), show (σ109 55 32).toInt = (σ 55 32).toInt from by omega]; exact hr0), (show jTt (σ109 42) (σ109 85) (σ109 55 55).toInt by rw [show σ109 42 = σ 42 from ((f111 42 (by decide)).trans (f17 42 (by decide))), show σ109 85 = σ 85 from ((f111 85 (by decide)).trans (f17 85 (by decide))), show (σ109 55 55).toInt = (σ 55 55).toInt from by omega]; exact hr1)⟩ hP hS (lv_sub hl [0, 1, 2, 3] rfl)
set_option maxHeartbeats 4000000 in
set_option maxRecDepth 100000 in
theorem law_case_2 {p : Program} {e : Env} {s : State} {m : MethodId} {below : List Frame} {meth : Method} {c : Code} (l : Launch) {b L : Nat} {xs : Nat → Int32} {D : va_G} {cI cL : ClassId} {ad zz : Nat → Nat} (C0 : lw_At p s m meth c b L xs) (hJ : jD ad) (hA : ∀ q, jA ad q → s.heap.size ≤ q) (hK : jK D cI cL s) (hZ : jZ zz (fun q : Nat => s.heap.size ≤ q) s s.heap) {x0 : Int32} (hx0 : 0 ≤ x0.toInt) (hxL : x0.toInt + 6 ≤ (L : Int)) (hL : L ≤ 384) {σ : Nat → Nat → Int32} {τ : Nat → Nat → Int64} {H : Heap} {locs : List Loc} (hS : va_S (fun q : Nat => s.heap.size ≤ q) s.heap H locs) {ls : Array Slot} (hAll : jAll σ τ) (hP : jH D cI cL ad σ τ H) (hl : lv_has ls 4 [(3, .int x0), (2, .ref (ad 55)), (1, .ref (ad 0)), (0, .ref b)]) (ih : ∀ (x1 : Int32) (σ : Nat → Nat → Int32) (τ : Nat → Nat → Int64) (H : Heap) (locs : List Loc) (ls : Array Slot), x1.toInt = x0.toInt + 6 → jAll σ τ → jH D cI cL ad σ τ H → va_S (fun q : Nat => s.heap.size ≤ q) s.heap H locs → lv_has ls 4 [(3, .int x1), (2, .ref (ad 55)), (1, .ref (ad 0)), (0, .ref b)] → W p l e room_1 s m #[Value.ref b] below meth c H locs 90 348600 (lw_Z below #[Value.ref b] s) (F0 m 18 ls [])) : W p l e room_1 s m #[Value.ref b] below meth c H locs 90 348600 (lw_Z below #[Value.ref b] s) (F0 m 282 ls []) := by
  obtain ⟨hx, hb, hr, hml, hown, hts0, hX, hbl, hlocks, hgv⟩ := C0
  have hts : ∀ w ∈ wsL_law, w.before #[Value.ref b] s = true := fun w h => hts0 w (wsL_law_in w h)
  have hbA : ¬ (fun q : Nat => s.heap.size ≤ q) b := Nat.not_le.mpr hbl
  have hown : s.vm.findClass RL = some m.cls := hown
  obtain ⟨hI2, hI9, hI12, hI16, hI18, hI22, hI31, hI38, hI43, hI47, hI50, hI101, hI102, hI103, hI104, hI105, hI106, hI107, hI109, hI110, hI111, hI119, hs_jKept, hs_jBook, ht0, ht1, hr0, hr1⟩ := hAll
  have hL9 : (L : Int) ≤ 384 := by omega
  obtain ⟨i1, i2, w3⟩ : (0 ≤ (σ 38 0).toInt ∧ (σ 38 0).toInt ≤ 20) ∧ (0 ≤ (σ 38 1).toInt ∧ (σ 38 1).toInt ≤ 1000) ∧ (∀ k : Nat, k < 20 → 0 ≤ (σ 39 k).toInt ∧ (σ 39 k).toInt ≤ 6) := id hI38
  obtain ⟨i4, w5, w6, w7⟩ : (0 ≤ (σ 55 32).toInt ∧ (σ 55 32).toInt ≤ 20) ∧ (∀ k : Nat, k < 20 → 0 ≤ (σ 70 k).toInt ∧ (σ 70 k).toInt ≤ 6) ∧ (∀ k : Nat, k < 20 → 0 ≤ (σ 71 k).toInt ∧ (σ 71 k).toInt ≤ 8) ∧ (∀ k : Nat, k < 160 → 0 ≤ (σ 72 k).toInt ∧ (σ 72 k).toInt ≤ 3) := id hI106
  refine lv_aload_n hx hb dL_law_282 rfl (lv_at hl 2 rfl) ?_
  refine lv_aload_n hx hb dL_law_283 rfl (lv_at hl 3 rfl) ?_
  refine lv_iload_n hx hb dL_law_284 rfl (lv_at hl 0 rfl) ?_
  refine lv_iconst (v := 1) hx hb dL_law_285 (by decide) ?_
  have g8 := jrg (rfl : x0.toInt = x0.toInt)
  refine lv_iadd hx hb dL_law_286 ?_
  refine lv_topi (fun x9 ex9 => ?_)
  have tx9 : x9.toInt = x0.toInt + 1 := (jadd ex9 rfl jz_1 (by omega) (by omega)).trans (by omega)
  refine va_sld hx hb hX hbl hbA hS (jin tx9 (by omega) (by omega)) dL_law_287 ?_
  have g10 := jrg (rfl : (xs x9.toNatClampNeg).toInt = (xs x9.toNatClampNeg).toInt)
  refine lv_aload_n hx hb dL_law_288 rfl (lv_at hl 3 rfl) ?_
  refine lv_iload_n hx hb dL_law_289 rfl (lv_at hl 0 rfl) ?_
  refine lv_iconst (v := 2) hx hb dL_law_290 (by decide) ?_
  refine lv_iadd hx hb dL_law_291 ?_
  refine lv_topi (fun x11 ex11 => ?_)
  have tx11 : x11.toInt = x0.toInt + 2 := (jadd ex11 rfl jz_2 (by omega) (by omega)).trans (by omega)
  refine va_sld hx hb hX hbl hbA hS (jin tx11 (by omega) (by omega)) dL_law_292 ?_
  have g12 := jrg (rfl : (xs x11.toNatClampNeg).toInt = (xs x11.toNatClampNeg).toInt)
  refine lv_aload_n hx hb dL_law_293 rfl (lv_at hl 3 rfl) ?_
  refine lv_iload_n hx hb dL_law_294 rfl (lv_at hl 0 rfl) ?_
  refine lv_iconst (v := 3) hx hb dL_law_295 (by decide) ?_
  refine lv_iadd hx hb dL_law_296 ?_
  refine lv_topi (fun x13 ex13 => ?_)
  have tx13 : x13.toInt = x0.toInt + 3 := (jadd ex13 rfl jz_3 (by omega) (by omega)).trans (by omega)
  refine va_sld hx hb hX hbl hbA hS (jin tx13 (by omega) (by omega)) dL_law_297 ?_
  have g14 := jrg (rfl : (xs x13.toNatClampNeg).toInt = (xs x13.toNatClampNeg).toInt)
  refine jcallV (As := [.int (xs x9.toNatClampNeg), .int (xs x11.toNatClampNeg), .int (xs x13.toNatClampNeg)]) (rest := []) ⟨hx, hb, hml, hown, hts⟩ hK hP hA hS hZ (c_X11_field l D cI cL ad zz hJ σ τ (xs x9.toNatClampNeg) ((xs x9.toNatClampNeg).toInt) rfl (xs x11.toNatClampNeg) ((xs x11.toNatClampNeg).toInt) rfl (xs x13.toNatClampNeg) ((xs x13.toNatClampNeg).toInt) rfl hI2) cw_RL_22 (jc_0 cI cL ad σ τ) rfl ⟨Nat.le_of_ble_eq_true rfl, Nat.le_of_ble_eq_true rfl⟩ rfl rfl rfl hl.1 rfl (Nat.le_of_ble_eq_true rfl) dL_law_298 ⟨Nat.le_of_ble_eq_true rfl, Nat.le_of_ble_eq_true rfl⟩ (fun r16 σ15 τ15 H locs h15 hP hS => ?_)
  obtain ⟨rfl, f17, f18, I19, h15⟩ := h15
  rcases h15 with h21 | h22
  · obtain ⟨q27, k23, k24, k25, k26⟩ := h21
    have q27 := q27.symm
    subst q27
    refine lv_pop hx hb dL_law_301 rfl ?_
    refine lv_aload_n hx hb dL_law_302 rfl (lv_at hl 1 rfl) ?_
    refine lv_aload_n hx hb dL_law_303 rfl (lv_at hl 3 rfl) ?_
    refine lv_iload_n hx hb dL_law_304 rfl (lv_at hl 0 rfl) ?_
    refine lv_iconst (v := 1) hx hb dL_law_305 (by decide) ?_
    refine lv_iadd hx hb dL_law_306 ?_
    refine jtopr ex9.symm ?_
    refine va_sld hx hb hX hbl hbA hS (jin tx9 (by omega) (by omega)) dL_law_307 ?_
    refine lv_aload_n hx hb dL_law_308 rfl (lv_at hl 3 rfl) ?_
    refine lv_iload_n hx hb dL_law_309 rfl (lv_at hl 0 rfl) ?_
    refine lv_iconst (v := 2) hx hb dL_law_310 (by decide) ?_
    refine lv_iadd hx hb dL_law_311 ?_
    refine jtopr ex11.symm ?_
    refine va_sld hx hb hX hbl hbA hS (jin tx11 (by omega) (by omega)) dL_law_312 ?_
    refine lv_aload_n hx hb dL_law_313 rfl (lv_at hl 3 rfl) ?_
    refine lv_iload_n hx hb dL_law_314 rfl (lv_at hl 0 rfl) ?_
    refine lv_iconst (v := 3) hx hb dL_law_315 (by decide) ?_
    refine lv_iadd hx hb dL_law_316 ?_
    refine jtopr ex13.symm ?_
    refine va_sld hx hb hX hbl hbA hS (jin tx13 (by omega) (by omega)) dL_law_317 ?_
    have I28 : jI101 σ15 := jI101_fr (congrFun (f17 55 (by decide)) 4) (congrFun (f17 55 (by decide)) 5) (f17 56 (by decide)) (f17 57 (by decide)) (f17 58 (by decide)) (f17 59 (by decide)) hI101
    have z29 : (σ15 55 5).toInt = (σ 55 5).toInt := (congrArg Int32.toInt (show σ15 55 5 = (σ 55 5) from (congrFun (f17 55 (by decide)) 5)))
    have z30 : (σ15 55 4).toInt = (σ 55 4).toInt := (congrArg Int32.toInt (show σ15 55 4 = (σ 55 4) from (congrFun (f17 55 (by decide)) 4)))
    refine jcallV (As := [.int (xs x9.toNatClampNeg), .int (xs x11.toNatClampNeg), .int (xs x13.toNatClampNeg)]) (rest := []) ⟨hx, hb, hml, hown, hts⟩ hK hP hA hS hZ (c_X12_field l D cI cL ad zz hJ σ15 τ (xs x9.toNatClampNeg) ((xs x9.toNatClampNeg).toInt) rfl (xs x11.toNatClampNeg) ((xs x11.toNatClampNeg).toInt) rfl (xs x13.toNatClampNeg) ((xs x13.toNatClampNeg).toInt) rfl I28) cw_RL_25 (jc_55 cI cL ad σ15 τ) rfl ⟨Nat.le_of_ble_eq_true rfl, Nat.le_of_ble_eq_true rfl⟩ rfl rfl rfl hl.1 rfl (Nat.le_of_ble_eq_true rfl) dL_law_318 ⟨Nat.le_of_ble_eq_true rfl, Nat.le_of_ble_eq_true rfl⟩ (fun r32 σ31 τ31 H locs h31 hP hS => ?_)
    obtain ⟨rfl, f33, f34, I35, h31⟩ := h31
    rcases h31 with h37 | h38
    · obtain ⟨q43, k39, k40, k41, k42⟩ := h37
      have q43 := q43.symm
      subst q43
      refine lv_pop hx hb dL_law_321 rfl ?_
      refine lv_goto (tgt := 1357) hx hb dL_law_322 (by decide) ?_
      obtain ⟨x44, ex44⟩ : ∃ y : Int32, y = x0 + 6 := ⟨_, rfl⟩
      have tx44 : x44.toInt = x0.toInt + 6 := (jadd ex44 rfl jz_6 (by omega) (by omega)).trans (by omega)
      refine lv_iinc (v := x44) (lv' := [(3, .int x44), (2, .ref (ad 55)), (1, .ref (ad 0)), (0, .ref b)]) hx hb dL_law_1357 hl (k := 0) rfl (by rw [ex44]; rfl) (by decide) rfl (fun ls hl => ?_)
      refine lv_goto (tgt := 18) hx hb dL_law_1360 (by decide) ?_
      have I45 : jI2 σ31 := jI2_fr (congrFun (f33 2 (by decide)) 0) (congrFun (f33 2 (by decide)) 1) (congrFun (f33 2 (by decide)) 2) (congrFun (f33 2 (by decide)) 3) (f33 6 (by decide)) I19
      have I46 : jI9 σ31 := jI9_fr ((congrFun (f33 9 (by decide)) 0).trans (congrFun (f17 9 (by decide)) 0)) ((f33 10 (by decide)).trans (f17 10 (by decide))) ((f33 11 (by decide)).trans (f17 11 (by decide))) hI9
      have I47 : jI12 σ31 := jI12_fr ((congrFun (f33 12 (by decide)) 0).trans (congrFun (f17 12 (by decide)) 0)) ((f33 13 (by decide)).trans (f17 13 (by decide))) hI12
      have I48 : jI16 σ31 := jI16_fr ((congrFun (f33 16 (by decide)) 0).trans (congrFun (f17 16 (by decide)) 0)) ((congrFun (f33 16 (by decide)) 1).trans (congrFun (f17 16 (by decide)) 1)) ((congrFun (f33 16 (by decide)) 2).trans (congrFun (f17 16 (by decide)) 2)) ((f33 17 (by decide)).trans (f17 17 (by decide))) hI16
      have I49 : jI18 σ31 := jI18_fr ((congrFun (f33 18 (by decide)) 0).trans (congrFun (f17 18 (by decide)) 0)) ((f33 19 (by decide)).trans (f17 19 (by decide))) hI18
      have I50 : jI22 σ31 := jI22_fr ((congrFun (f33 22 (by decide)) 0).trans (congrFun (f17 22 (by decide)) 0)) ((f33 23 (by decide)).trans (f17 23 (by decide))) hI22
      have I51 : jI31 σ31 := jI31_fr ((congrFun (f33 31 (by decide)) 8).trans (congrFun (f17 31 (by decide)) 8)) ((f33 33 (by decide)).trans (f17 33 (by decide))) ((f33 36 (by decide)).trans (f17 36 (by decide))) hI31
      have I52 : jI38 σ31 := jI38_fr ((congrFun (f33 38 (by decide)) 0).trans (congrFun (f17 38 (by decide)) 0)) ((congrFun (f33 38 (by decide)) 1).trans (congrFun (f17 38 (by decide)) 1)) ((f33 39 (by decide)).trans (f17 39 (by decide))) hI38
      have I53 : jI43 σ31 := jI43_fr ((congrFun (f33 43 (by decide)) 8).trans (congrFun (f17 43 (by decide)) 8)) hI43
      have I54 : jI47 σ31 := jI47_fr ((congrFun (f33 47 (by decide)) 0).trans (congrFun (f17 47 (by decide)) 0)) ((f33 48 (by decide)).trans (f17 48 (by decide))) ((f33 49 (by decide)).trans (f17 49 (by decide))) hI47
      have I55 : jI50 σ31 := jI50_fr ((f33 52 (by decide)).trans (f17 52 (by decide))) hI50
      have I56 : jI102 σ31 := jI102_fr ((f34 6 (by decide)).trans (congrFun (f17 55 (by decide)) 6)) ((f33 60 (by decide)).trans (f17 60 (by decide))) ((f33 61 (by decide)).trans (f17 61 (by decide))) hI102
      have I57 : jI103 σ31 := jI103_fr ((f34 9 (by decide)).trans (congrFun (f17 55 (by decide)) 9)) hI103
      have I58 : jI104 σ31 := jI104_fr ((f34 10 (by decide)).trans (congrFun (f17 55 (by decide)) 10)) ((f34 12 (by decide)).trans (congrFun (f17 55 (by decide)) 12)) ((f34 13 (by decide)).trans (congrFun (f17 55 (by decide)) 13)) ((f33 62 (by decide)).trans (f17 62 (by decide))) ((f33 67 (by decide)).trans (f17 67 (by decide))) hI104
      have I59 : jI105 σ31 := jI105_fr ((f34 15 (by decide)).trans (congrFun (f17 55 (by decide)) 15)) ((f33 65 (by decide)).trans (f17 65 (by decide))) hI105
      have I60 : jI106 σ31 := jI106_fr ((f34 32 (by decide)).trans (congrFun (f17 55 (by decide)) 32)) ((f33 70 (by decide)).trans (f17 70 (by decide))) ((f33 71 (by decide)).trans (f17 71 (by decide))) ((f33 72 (by decide)).trans (f17 72 (by decide))) hI106
      have I61 : jI107 σ31 := jI107_fr ((f34 12 (by decide)).trans (congrFun (f17 55 (by decide)) 12)) ((f34 47 (by decide)).trans (congrFun (f17 55 (by decide)) 47)) ((f33 80 (by decide)).trans (f17 80 (by decide))) hI107
      have I62 : jI109 σ31 := jI109_fr ((f34 50 (by decide)).trans (congrFun (f17 55 (by decide)) 50)) hI109
      have I63 : jI110 σ31 := jI110_fr ((f33 86 (by decide)).trans (f17 86 (by decide))) ((f33 87 (by decide)).trans (f17 87 (by decide))) hI110
      have I64 : jI111 σ31 := jI111_fr ((f33 79 (by decide)).trans (f17 79 (by decide))) hI111
      have I65 : jI119 σ31 := jI119_fr ((f33 68 (by decide)).trans (f17 68 (by decide))) hI119
      have p66 : jKept σ31 := jKept.fr ((f33 75 (by decide)).trans (f17 75 (by decide))) ((f33 76 (by decide)).trans (f17 76 (by decide))) ((f33 77 (by decide)).trans (f17 77 (by decide))) hs_jKept
      have p67 : jBook σ31 := jBook.fr ((f34 47 (by decide)).trans (congrFun (f17 55 (by decide)) 47)) ((f34 10 (by decide)).trans (congrFun (f17 55 (by decide)) 10)) ((f33 81 (by decide)).trans (f17 81 (by decide))) hs_jBook
      have z68 : (σ31 38 0).toInt = (σ 38 0).toInt := (congrArg Int32.toInt (show σ31 38 0 = (σ 38 0) from ((congrFun (f33 38 (by decide)) 0).trans (congrFun (f17 38 (by decide)) 0))))
      have z69 : (σ31 55 32).toInt = (σ 55 32).toInt := (congrArg Int32.toInt (show σ31 55 32 = (σ 55 32) from ((f34 32 (by decide)).trans (congrFun (f17 55 (by decide)) 32))))
      have z70 : (σ31 38 1).toInt = (σ 38 1).toInt := (congrArg Int32.toInt (show σ31 38 1 = (σ 38 1) from ((congrFun (f33 38 (by decide)) 1).trans (congrFun (f17 38 (by decide)) 1))))
      have z71 : (σ31 55 55).toInt = (σ 55 55).toInt := (congrArg Int32.toInt (show σ31 55 55 = (σ 55 55) from ((f34 55 (by decide)).trans (congrFun (f17 55 (by decide)) 55))))
      exact ih x44 σ31 τ _ _ ls (by have h9 := tx44; omega) ⟨I45, I46, I47, I48, I49, I50, I51, I52, I53, I54, I55, I35, I56, I57, I58, I59, I60, I61, I62, I63, I64, I65, p66, p67, (by omega), (by omega), (show jKd (σ31 39) (σ31 70) (σ31 55 32).toInt by rw [show σ31 39 = σ 39 from ((f33 39 (by decide)).trans (f17 39 (by decide))), show σ31 70 = σ 70 from ((f33 70 (by decide)).trans (f17 70 (by decide))), show (σ31 55 32).toInt = (σ 55 32).toInt from by omega]; exact hr0), (show jTt (σ31 42) (σ31 85) (σ31 55 55).toInt by rw [show σ31 42 = σ 42 from ((f33 42 (by decide)).trans (f17 42 (by decide))), show σ31 85 = σ 85 from ((f33 85 (by decide)).trans (f17 85 (by decide))), show (σ31 55 55).toInt = (σ 55 55).toInt from by omega]; exact hr1)⟩ hP hS (lv_sub hl [0, 1, 2, 3] rfl)
    · obtain ⟨q73, k72⟩ := h38
      refine lv_pop hx hb dL_law_321 rfl ?_
      refine lv_goto (tgt := 1357) hx hb dL_law_322 (by decide) ?_
      obtain ⟨x74, ex74⟩ : ∃ y : Int32, y = x0 + 6 := ⟨_, rfl⟩
      have tx74 : x74.toInt = x0.toInt + 6 := (jadd ex74 rfl jz_6 (by omega) (by omega)).trans (by omega)
      refine lv_iinc (v := x74) (lv' := [(3, .int x74), (2, .ref (ad 55)), (1, .ref (ad 0)), (0, .ref b)]) hx hb dL_law_1357 hl (k := 0) rfl (by rw [ex74]; rfl) (by decide) rfl (fun ls hl => ?_)
      refine lv_goto (tgt := 18) hx hb dL_law_1360 (by decide) ?_
      have I75 : jI2 σ31 := jI2_fr (congrFun (f33 2 (by decide)) 0) (congrFun (f33 2 (by decide)) 1) (congrFun (f33 2 (by decide)) 2) (congrFun (f33 2 (by decide)) 3) (f33 6 (by decide)) I19
      have I76 : jI9 σ31 := jI9_fr ((congrFun (f33 9 (by decide)) 0).trans (congrFun (f17 9 (by decide)) 0)) ((f33 10 (by decide)).trans (f17 10 (by decide))) ((f33 11 (by decide)).trans (f17 11 (by decide))) hI9
      have I77 : jI12 σ31 := jI12_fr ((congrFun (f33 12 (by decide)) 0).trans (congrFun (f17 12 (by decide)) 0)) ((f33 13 (by decide)).trans (f17 13 (by decide))) hI12
      have I78 : jI16 σ31 := jI16_fr ((congrFun (f33 16 (by decide)) 0).trans (congrFun (f17 16 (by decide)) 0)) ((congrFun (f33 16 (by decide)) 1).trans (congrFun (f17 16 (by decide)) 1)) ((congrFun (f33 16 (by decide)) 2).trans (congrFun (f17 16 (by decide)) 2)) ((f33 17 (by decide)).trans (f17 17 (by decide))) hI16
      have I79 : jI18 σ31 := jI18_fr ((congrFun (f33 18 (by decide)) 0).trans (congrFun (f17 18 (by decide)) 0)) ((f33 19 (by decide)).trans (f17 19 (by decide))) hI18
      have I80 : jI22 σ31 := jI22_fr ((congrFun (f33 22 (by decide)) 0).trans (congrFun (f17 22 (by decide)) 0)) ((f33 23 (by decide)).trans (f17 23 (by decide))) hI22
      have I81 : jI31 σ31 := jI31_fr ((congrFun (f33 31 (by decide)) 8).trans (congrFun (f17 31 (by decide)) 8)) ((f33 33 (by decide)).trans (f17 33 (by decide))) ((f33 36 (by decide)).trans (f17 36 (by decide))) hI31
      have I82 : jI38 σ31 := jI38_fr ((congrFun (f33 38 (by decide)) 0).trans (congrFun (f17 38 (by decide)) 0)) ((congrFun (f33 38 (by decide)) 1).trans (congrFun (f17 38 (by decide)) 1)) ((f33 39 (by decide)).trans (f17 39 (by decide))) hI38
      have I83 : jI43 σ31 := jI43_fr ((congrFun (f33 43 (by decide)) 8).trans (congrFun (f17 43 (by decide)) 8)) hI43
      have I84 : jI47 σ31 := jI47_fr ((congrFun (f33 47 (by decide)) 0).trans (congrFun (f17 47 (by decide)) 0)) ((f33 48 (by decide)).trans (f17 48 (by decide))) ((f33 49 (by decide)).trans (f17 49 (by decide))) hI47
      have I85 : jI50 σ31 := jI50_fr ((f33 52 (by decide)).trans (f17 52 (by decide))) hI50
      have I86 : jI102 σ31 := jI102_fr ((f34 6 (by decide)).trans (congrFun (f17 55 (by decide)) 6)) ((f33 60 (by decide)).trans (f17 60 (by decide))) ((f33 61 (by decide)).trans (f17 61 (by decide))) hI102
      have I87 : jI103 σ31 := jI103_fr ((f34 9 (by decide)).trans (congrFun (f17 55 (by decide)) 9)) hI103
      have I88 : jI104 σ31 := jI104_fr ((f34 10 (by decide)).trans (congrFun (f17 55 (by decide)) 10)) ((f34 12 (by decide)).trans (congrFun (f17 55 (by decide)) 12)) ((f34 13 (by decide)).trans (congrFun (f17 55 (by decide)) 13)) ((f33 62 (by decide)).trans (f17 62 (by decide))) ((f33 67 (by decide)).trans (f17 67 (by decide))) hI104
      have I89 : jI105 σ31 := jI105_fr ((f34 15 (by decide)).trans (congrFun (f17 55 (by decide)) 15)) ((f33 65 (by decide)).trans (f17 65 (by decide))) hI105
      have I90 : jI106 σ31 := jI106_fr ((f34 32 (by decide)).trans (congrFun (f17 55 (by decide)) 32)) ((f33 70 (by decide)).trans (f17 70 (by decide))) ((f33 71 (by decide)).trans (f17 71 (by decide))) ((f33 72 (by decide)).trans (f17 72 (by decide))) hI106
      have I91 : jI107 σ31 := jI107_fr ((f34 12 (by decide)).trans (congrFun (f17 55 (by decide)) 12)) ((f34 47 (by decide)).trans (congrFun (f17 55 (by decide)) 47)) ((f33 80 (by decide)).trans (f17 80 (by decide))) hI107
      have I92 : jI109 σ31 := jI109_fr ((f34 50 (by decide)).trans (congrFun (f17 55 (by decide)) 50)) hI109
      have I93 : jI110 σ31 := jI110_fr ((f33 86 (by decide)).trans (f17 86 (by decide))) ((f33 87 (by decide)).trans (f17 87 (by decide))) hI110
      have I94 : jI111 σ31 := jI111_fr ((f33 79 (by decide)).trans (f17 79 (by decide))) hI111
      have I95 : jI119 σ31 := jI119_fr ((f33 68 (by decide)).trans (f17 68 (by decide))) hI119
      have p96 : jKept σ31 := jKept.fr ((f33 75 (by decide)).trans (f17 75 (by decide))) ((f33 76 (by decide)).trans (f17 76 (by decide))) ((f33 77 (by decide)).trans (f17 77 (by decide))) hs_jKept
      have p97 : jBook σ31 := jBook.fr ((f34 47 (by decide)).trans (congrFun (f17 55 (by decide)) 47)) ((f34 10 (by decide)).trans (congrFun (f17 55 (by decide)) 10)) ((f33 81 (by decide)).trans (f17 81 (by decide))) hs_jBook
      have z98 : (σ31 38 0).toInt = (σ 38 0).toInt := (congrArg Int32.toInt (show σ31 38 0 = (σ 38 0) from ((congrFun (f33 38 (by decide)) 0).trans (congrFun (f17 38 (by decide)) 0))))
      have z99 : (σ31 55 32).toInt = (σ 55 32).toInt := (congrArg Int32.toInt (show σ31 55 32 = (σ 55 32) from ((f34 32 (by decide)).trans (congrFun (f17 55 (by decide)) 32))))
      have z100 : (σ31 38 1).toInt = (σ 38 1).toInt := (congrArg Int32.toInt (show σ31 38 1 = (σ 38 1) from ((congrFun (f33 38 (by decide)) 1).trans (congrFun (f17 38 (by decide)) 1))))
      have z101 : (σ31 55 55).toInt = (σ 55 55).toInt := (congrArg Int32.toInt (show σ31 55 55 = (σ 55 55) from ((f34 55 (by decide)).trans (congrFun (f17 55 (by decide)) 55))))
      exact ih x74 σ31 τ _ _ ls (by have h9 := tx74; omega) ⟨I75, I76, I77, I78, I79, I80, I81, I82, I83, I84, I85, I35, I86, I87, I88, I89, I90, I91, I92, I93, I94, I95, p96, p97, (by omega), (by omega), (show jKd (σ31 39) (σ31 70) (σ31 55 32).toInt by rw [show σ31 39 = σ 39 from ((f33 39 (by decide)).trans (f17 39 (by decide))), show σ31 70 = σ 70 from ((f33 70 (by decide)).trans (f17 70 (by decide))), show (σ31 55 32).toInt = (σ 55 32).toInt from by omega]; exact hr0), (show jTt (σ31 42) (σ31 85) (σ31 55 55).toInt by rw [show σ31 42 = σ 42 from ((f33 42 (by decide)).trans (f17 42 (by decide))), show σ31 85 = σ 85 from ((f33 85 (by decide)).trans (f17 85 (by decide))), show (σ31 55 55).toInt = (σ 55 55).toInt from by omega]; exact hr1)⟩ hP hS (lv_sub hl [0, 1, 2, 3] rfl)
  · obtain ⟨q103, k102⟩ := h22
    refine lv_pop hx hb dL_law_301 rfl ?_
    refine lv_aload_n hx hb dL_law_302 rfl (lv_at hl 1 rfl) ?_
    refine lv_aload_n hx hb dL_law_303 rfl (lv_at hl 3 rfl) ?_
    refine lv_iload_n hx hb dL_law_304 rfl (lv_at hl 0 rfl) ?_
    refine lv_iconst (v := 1) hx hb dL_law_305 (by decide) ?_
    refine lv_iadd hx hb dL_law_306 ?_
    refine jtopr ex9.symm ?_
    refine va_sld hx hb hX hbl hbA hS (jin tx9 (by omega) (by omega)) dL_law_307 ?_
    refine lv_aload_n hx hb dL_law_308 rfl (lv_at hl 3 rfl) ?_
    refine lv_iload_n hx hb dL_law_309 rfl (lv_at hl 0 rfl) ?_
    refine lv_iconst (v := 2) hx hb dL_law_310 (by decide) ?_
    refine lv_iadd hx hb dL_law_311 ?_
    refine jtopr ex11.symm ?_
    refine va_sld hx hb hX hbl hbA hS (jin tx11 (by omega) (by omega)) dL_law_312 ?_
    refine lv_aload_n hx hb dL_law_313 rfl (lv_at hl 3 rfl) ?_
    refine lv_iload_n hx hb dL_law_314 rfl (lv_at hl 0 rfl) ?_
    refine lv_iconst (v := 3) hx hb dL_law_315 (by decide) ?_
    refine lv_iadd hx hb dL_law_316 ?_
    refine jtopr ex13.symm ?_
    refine va_sld hx hb hX hbl hbA hS (jin tx13 (by omega) (by omega)) dL_law_317 ?_
    have I104 : jI101 σ15 := jI101_fr (congrFun (f17 55 (by decide)) 4) (congrFun (f17 55 (by decide)) 5) (f17 56 (by decide)) (f17 57 (by decide)) (f17 58 (by decide)) (f17 59 (by decide)) hI101
    have z105 : (σ15 55 5).toInt = (σ 55 5).toInt := (congrArg Int32.toInt (show σ15 55 5 = (σ 55 5) from (congrFun (f17 55 (by decide)) 5)))
    have z106 : (σ15 55 4).toInt = (σ 55 4).toInt := (congrArg Int32.toInt (show σ15 55 4 = (σ 55 4) from (congrFun (f17 55 (by decide)) 4)))
    refine jcallV (As := [.int (xs x9.toNatClampNeg), .int (xs x11.toNatClampNeg), .int (xs x13.toNatClampNeg)]) (rest := []) ⟨hx, hb, hml, hown, hts⟩ hK hP hA hS hZ (c_X12_field l D cI cL ad zz hJ σ15 τ (xs x9.toNatClampNeg) ((xs x9.toNatClampNeg).toInt) rfl (xs x11.toNatClampNeg) ((xs x11.toNatClampNeg).toInt) rfl (xs x13.toNatClampNeg) ((xs x13.toNatClampNeg).toInt) rfl I104) cw_RL_25 (jc_55 cI cL ad σ15 τ) rfl ⟨Nat.le_of_ble_eq_true rfl, Nat.le_of_ble_eq_true rfl⟩ rfl rfl rfl hl.1 rfl (Nat.le_of_ble_eq_true rfl) dL_law_318 ⟨Nat.le_of_ble_eq_true rfl, Nat.le_of_ble_eq_true rfl⟩ (fun r108 σ107 τ107 H locs h107 hP hS => ?_)
    obtain ⟨rfl, f109, f110, I111, h107⟩ := h107
    rcases h107 with h113 | h114
    · obtain ⟨q119, k115, k116, k117, k118⟩ := h113
      have q119 := q119.symm
      subst q119
      refine lv_pop hx hb dL_law_321 rfl ?_
      refine lv_goto (tgt := 1357) hx hb dL_law_322 (by decide) ?_
      obtain ⟨x120, ex120⟩ : ∃ y : Int32, y = x0 + 6 := ⟨_, rfl⟩
      have tx120 : x120.toInt = x0.toInt + 6 := (jadd ex120 rfl jz_6 (by omega) (by omega)).trans (by omega)
      refine lv_iinc (v := x120) (lv' := [(3, .int x120), (2, .ref (ad 55)), (1, .ref (ad 0)), (0, .ref b)]) hx hb dL_law_1357 hl (k := 0) rfl (by rw [ex120]; rfl) (by decide) rfl (fun ls hl => ?_)
      refine lv_goto (tgt := 18) hx hb dL_law_1360 (by decide) ?_
      have I121 : jI2 σ107 := jI2_fr (congrFun (f109 2 (by decide)) 0) (congrFun (f109 2 (by decide)) 1) (congrFun (f109 2 (by decide)) 2) (congrFun (f109 2 (by decide)) 3) (f109 6 (by decide)) I19
      have I122 : jI9 σ107 := jI9_fr ((congrFun (f109 9 (by decide)) 0).trans (congrFun (f17 9 (by decide)) 0)) ((f109 10 (by decide)).trans (f17 10 (by decide))) ((f109 11 (by decide)).trans (f17 11 (by decide))) hI9
      have I123 : jI12 σ107 := jI12_fr ((congrFun (f109 12 (by decide)) 0).trans (congrFun (f17 12 (by decide)) 0)) ((f109 13 (by decide)).trans (f17 13 (by decide))) hI12
      have I124 : jI16 σ107 := jI16_fr ((congrFun (f109 16 (by decide)) 0).trans (congrFun (f17 16 (by decide)) 0)) ((congrFun (f109 16 (by decide)) 1).trans (congrFun (f17 16 (by decide)) 1)) ((congrFun (f109 16 (by decide)) 2).trans (congrFun (f17 16 (by decide)) 2)) ((f109 17 (by decide)).trans (f17 17 (by decide))) hI16
      have I125 : jI18 σ107 := jI18_fr ((congrFun (f109 18 (by decide)) 0).trans (congrFun (f17 18 (by decide)) 0)) ((f109 19 (by decide)).trans (f17 19 (by decide))) hI18
      have I126 : jI22 σ107 := jI22_fr ((congrFun (f109 22 (by decide)) 0).trans (congrFun (f17 22 (by decide)) 0)) ((f109 23 (by decide)).trans (f17 23 (by decide))) hI22
      have I127 : jI31 σ107 := jI31_fr ((congrFun (f109 31 (by decide)) 8).trans (congrFun (f17 31 (by decide)) 8)) ((f109 33 (by decide)).trans (f17 33 (by decide))) ((f109 36 (by decide)).trans (f17 36 (by decide))) hI31
      have I128 : jI38 σ107 := jI38_fr ((congrFun (f109 38 (by decide)) 0).trans (congrFun (f17 38 (by decide)) 0)) ((congrFun (f109 38 (by decide)) 1).trans (congrFun (f17 38 (by decide)) 1)) ((f109 39 (by decide)).trans (f17 39 (by decide))) hI38
      have I129 : jI43 σ107 := jI43_fr ((congrFun (f109 43 (by decide)) 8).trans (congrFun (f17 43 (by decide)) 8)) hI43
      have I130 : jI47 σ107 := jI47_fr ((congrFun (f109 47 (by decide)) 0).trans (congrFun (f17 47 (by decide)) 0)) ((f109 48 (by decide)).trans (f17 48 (by decide))) ((f109 49 (by decide)).trans (f17 49 (by decide))) hI47
      have I131 : jI50 σ107 := jI50_fr ((f109 52 (by decide)).trans (f17 52 (by decide))) hI50
      have I132 : jI102 σ107 := jI102_fr ((f110 6 (by decide)).trans (congrFun (f17 55 (by decide)) 6)) ((f109 60 (by decide)).trans (f17 60 (by decide))) ((f109 61 (by decide)).trans (f17 61 (by decide))) hI102
      have I133 : jI103 σ107 := jI103_fr ((f110 9 (by decide)).trans (congrFun (f17 55 (by decide)) 9)) hI103
      have I134 : jI104 σ107 := jI104_fr ((f110 10 (by decide)).trans (congrFun (f17 55 (by decide)) 10)) ((f110 12 (by decide)).trans (congrFun (f17 55 (by decide)) 12)) ((f110 13 (by decide)).trans (congrFun (f17 55 (by decide)) 13)) ((f109 62 (by decide)).trans (f17 62 (by decide))) ((f109 67 (by decide)).trans (f17 67 (by decide))) hI104
      have I135 : jI105 σ107 := jI105_fr ((f110 15 (by decide)).trans (congrFun (f17 55 (by decide)) 15)) ((f109 65 (by decide)).trans (f17 65 (by decide))) hI105
      have I136 : jI106 σ107 := jI106_fr ((f110 32 (by decide)).trans (congrFun (f17 55 (by decide)) 32)) ((f109 70 (by decide)).trans (f17 70 (by decide))) ((f109 71 (by decide)).trans (f17 71 (by decide))) ((f109 72 (by decide)).trans (f17 72 (by decide))) hI106
      have I137 : jI107 σ107 := jI107_fr ((f110 12 (by decide)).trans (congrFun (f17 55 (by decide)) 12)) ((f110 47 (by decide)).trans (congrFun (f17 55 (by decide)) 47)) ((f109 80 (by decide)).trans (f17 80 (by decide))) hI107
      have I138 : jI109 σ107 := jI109_fr ((f110 50 (by decide)).trans (congrFun (f17 55 (by decide)) 50)) hI109
      have I139 : jI110 σ107 := jI110_fr ((f109 86 (by decide)).trans (f17 86 (by decide))) ((f109 87 (by decide)).trans (f17 87 (by decide))) hI110
      have I140 : jI111 σ107 := jI111_fr ((f109 79 (by decide)).trans (f17 79 (by decide))) hI111
      have I141 : jI119 σ107 := jI119_fr ((f109 68 (by decide)).trans (f17 68 (by decide))) hI119
      have p142 : jKept σ107 := jKept.fr ((f109 75 (by decide)).trans (f17 75 (by decide))) ((f109 76 (by decide)).trans (f17 76 (by decide))) ((f109 77 (by decide)).trans (f17 77 (by decide))) hs_jKept
      have p143 : jBook σ107 := jBook.fr ((f110 47 (by decide)).trans (congrFun (f17 55 (by decide)) 47)) ((f110 10 (by decide)).trans (congrFun (f17 55 (by decide)) 10)) ((f109 81 (by decide)).trans (f17 81 (by decide))) hs_jBook
      have z144 : (σ107 38 0).toInt = (σ 38 0).toInt := (congrArg Int32.toInt (show σ107 38 0 = (σ 38 0) from ((congrFun (f109 38 (by decide)) 0).trans (congrFun (f17 38 (by decide)) 0))))
      have z145 : (σ107 55 32).toInt = (σ 55 32).toInt := (congrArg Int32.toInt (show σ107 55 32 = (σ 55 32) from ((f110 32 (by decide)).trans (congrFun (f17 55 (by decide)) 32))))
      have z146 : (σ107 38 1).toInt = (σ 38 1).toInt := (congrArg Int32.toInt (show σ107 38 1 = (σ 38 1) from ((congrFun (f109 38 (by decide)) 1).trans (congrFun (f17 38 (by decide)) 1))))
      have z147 : (σ107 55 55).toInt = (σ 55 55).toInt := (congrArg Int32.toInt (show σ107 55 55 = (σ 55 55) from ((f110 55 (by decide)).trans (congrFun (f17 55 (by decide)) 55))))
      exact ih x120 σ107 τ _ _ ls (by have h9 := tx120; omega) ⟨I121, I122, I123, I124, I125, I126, I127, I128, I129, I130, I131, I111, I132, I133, I134, I135, I136, I137, I138, I139, I140, I141, p142, p143, (by omega), (by omega), (show jKd (σ107 39) (σ107 70) (σ107 55 32).toInt by rw [show σ107 39 = σ 39 from ((f109 39 (by decide)).trans (f17 39 (by decide))), show σ107 70 = σ 70 from ((f109 70 (by decide)).trans (f17 70 (by decide))), show (σ107 55 32).toInt = (σ 55 32).toInt from by omega]; exact hr0), (show jTt (σ107 42) (σ107 85) (σ107 55 55).toInt by rw [show σ107 42 = σ 42 from ((f109 42 (by decide)).trans (f17 42 (by decide))), show σ107 85 = σ 85 from ((f109 85 (by decide)).trans (f17 85 (by decide))), show (σ107 55 55).toInt = (σ 55 55).toInt from by omega]; exact hr1)⟩ hP hS (lv_sub hl [0, 1, 2, 3] rfl)
    · obtain ⟨q149, k148⟩ := h114
      refine lv_pop hx hb dL_law_321 rfl ?_
      refine lv_goto (tgt := 1357) hx hb dL_law_322 (by decide) ?_
      obtain ⟨x150, ex150⟩ : ∃ y : Int32, y = x0 + 6 := ⟨_, rfl⟩
      have tx150 : x150.toInt = x0.toInt + 6 := (jadd ex150 rfl jz_6 (by omega) (by omega)).trans (by omega)
      refine lv_iinc (v := x150) (lv' := [(3, .int x150), (2, .ref (ad 55)), (1, .ref (ad 0)), (0, .ref b)]) hx hb dL_law_1357 hl (k := 0) rfl (by rw [ex150]; rfl) (by decide) rfl (fun ls hl => ?_)
      refine lv_goto (tgt := 18) hx hb dL_law_1360 (by decide) ?_
      have I151 : jI2 σ107 := jI2_fr (congrFun (f109 2 (by decide)) 0) (congrFun (f109 2 (by decide)) 1) (congrFun (f109 2 (by decide)) 2) (congrFun (f109 2 (by decide)) 3) (f109 6 (by decide)) I19
      have I152 : jI9 σ107 := jI9_fr ((congrFun (f109 9 (by decide)) 0).trans (congrFun (f17 9 (by decide)) 0)) ((f109 10 (by decide)).trans (f17 10 (by decide))) ((f109 11 (by decide)).trans (f17 11 (by decide))) hI9
      have I153 : jI12 σ107 := jI12_fr ((congrFun (f109 12 (by decide)) 0).trans (congrFun (f17 12 (by decide)) 0)) ((f109 13 (by decide)).trans (f17 13 (by decide))) hI12
      have I154 : jI16 σ107 := jI16_fr ((congrFun (f109 16 (by decide)) 0).trans (congrFun (f17 16 (by decide)) 0)) ((congrFun (f109 16 (by decide)) 1).trans (congrFun (f17 16 (by decide)) 1)) ((congrFun (f109 16 (by decide)) 2).trans (congrFun (f17 16 (by decide)) 2)) ((f109 17 (by decide)).trans (f17 17 (by decide))) hI16
      have I155 : jI18 σ107 := jI18_fr ((congrFun (f109 18 (by decide)) 0).trans (congrFun (f17 18 (by decide)) 0)) ((f109 19 (by decide)).trans (f17 19 (by decide))) hI18
      have I156 : jI22 σ107 := jI22_fr ((congrFun (f109 22 (by decide)) 0).trans (congrFun (f17 22 (by decide)) 0)) ((f109 23 (by decide)).trans (f17 23 (by decide))) hI22
      have I157 : jI31 σ107 := jI31_fr ((congrFun (f109 31 (by decide)) 8).trans (congrFun (f17 31 (by decide)) 8)) ((f109 33 (by decide)).trans (f17 33 (by decide))) ((f109 36 (by decide)).trans (f17 36 (by decide))) hI31
      have I158 : jI38 σ107 := jI38_fr ((congrFun (f109 38 (by decide)) 0).trans (congrFun (f17 38 (by decide)) 0)) ((congrFun (f109 38 (by decide)) 1).trans (congrFun (f17 38 (by decide)) 1)) ((f109 39 (by decide)).trans (f17 39 (by decide))) hI38
      have I159 : jI43 σ107 := jI43_fr ((congrFun (f109 43 (by decide)) 8).trans (congrFun (f17 43 (by decide)) 8)) hI43
      have I160 : jI47 σ107 := jI47_fr ((congrFun (f109 47 (by decide)) 0).trans (congrFun (f17 47 (by decide)) 0)) ((f109 48 (by decide)).trans (f17 48 (by decide))) ((f109 49 (by decide)).trans (f17 49 (by decide))) hI47
      have I161 : jI50 σ107 := jI50_fr ((f109 52 (by decide)).trans (f17 52 (by decide))) hI50
      have I162 : jI102 σ107 := jI102_fr ((f110 6 (by decide)).trans (congrFun (f17 55 (by decide)) 6)) ((f109 60 (by decide)).trans (f17 60 (by decide))) ((f109 61 (by decide)).trans (f17 61 (by decide))) hI102
      have I163 : jI103 σ107 := jI103_fr ((f110 9 (by decide)).trans (congrFun (f17 55 (by decide)) 9)) hI103
      have I164 : jI104 σ107 := jI104_fr ((f110 10 (by decide)).trans (congrFun (f17 55 (by decide)) 10)) ((f110 12 (by decide)).trans (congrFun (f17 55 (by decide)) 12)) ((f110 13 (by decide)).trans (congrFun (f17 55 (by decide)) 13)) ((f109 62 (by decide)).trans (f17 62 (by decide))) ((f109 67 (by decide)).trans (f17 67 (by decide))) hI104
      have I165 : jI105 σ107 := jI105_fr ((f110 15 (by decide)).trans (congrFun (f17 55 (by decide)) 15)) ((f109 65 (by decide)).trans (f17 65 (by decide))) hI105
      have I166 : jI106 σ107 := jI106_fr ((f110 32 (by decide)).trans (congrFun (f17 55 (by decide)) 32)) ((f109 70 (by decide)).trans (f17 70 (by decide))) ((f109 71 (by decide)).trans (f17 71 (by decide))) ((f109 72 (by decide)).trans (f17 72 (by decide))) hI106
      have I167 : jI107 σ107 := jI107_fr ((f110 12 (by decide)).trans (congrFun (f17 55 (by decide)) 12)) ((f110 47 (by decide)).trans (congrFun (f17 55 (by decide)) 47)) ((f109 80 (by decide)).trans (f17 80 (by decide))) hI107
      have I168 : jI109 σ107 := jI109_fr ((f110 50 (by decide)).trans (congrFun (f17 55 (by decide)) 50)) hI109
      have I169 : jI110 σ107 := jI110_fr ((f109 86 (by decide)).trans (f17 86 (by decide))) ((f109 87 (by decide)).trans (f17 87 (by decide))) hI110
      have I170 : jI111 σ107 := jI111_fr ((f109 79 (by decide)).trans (f17 79 (by decide))) hI111
      have I171 : jI119 σ107 := jI119_fr ((f109 68 (by decide)).trans (f17 68 (by decide))) hI119
      have p172 : jKept σ107 := jKept.fr ((f109 75 (by decide)).trans (f17 75 (by decide))) ((f109 76 (by decide)).trans (f17 76 (by decide))) ((f109 77 (by decide)).trans (f17 77 (by decide))) hs_jKept
      have p173 : jBook σ107 := jBook.fr ((f110 47 (by decide)).trans (congrFun (f17 55 (by decide)) 47)) ((f110 10 (by decide)).trans (congrFun (f17 55 (by decide)) 10)) ((f109 81 (by decide)).trans (f17 81 (by decide))) hs_jBook
      have z174 : (σ107 38 0).toInt = (σ 38 0).toInt := (congrArg Int32.toInt (show σ107 38 0 = (σ 38 0) from ((congrFun (f109 38 (by decide)) 0).trans (congrFun (f17 38 (by decide)) 0))))
      have z175 : (σ107 55 32).toInt = (σ 55 32).toInt := (congrArg Int32.toInt (show σ107 55 32 = (σ 55 32) from ((f110 32 (by decide)).trans (congrFun (f17 55 (by decide)) 32))))
      have z176 : (σ107 38 1).toInt = (σ 38 1).toInt := (congrArg Int32.toInt (show σ107 38 1 = (σ 38 1) from ((congrFun (f109 38 (by decide)) 1).trans (congrFun (f17 38 (by decide)) 1))))
      have z177 : (σ107 55 55).toInt = (σ 55 55).toInt := (congrArg Int32.toInt (show σ107 55 55 = (σ 55 55) from ((f110 55 (by decide)).trans (congrFun (f17 55 (by decide)) 55))))
      exact ih x150 σ107 τ _ _ ls (by have h9 := tx150; omega) ⟨I151, I152, I153, I154, I155, I156, I157, I158, I159, I160, I161, I111, I162, I163, I164, I165, I166, I167, I168, I169, I170, I171, p172, p173, (by omega), (by omega), (show jKd (σ107 39) (σ107 70) (σ107 55 32).toInt by rw [show σ107 39 = σ 39 from ((f109 39 (by decide)).trans (f17 39 (by decide))), show σ107 70 = σ 70 from ((f109 70 (by decide)).trans (f17 70 (by decide))), show (σ107 55 32).toInt = (σ 55 32).toInt from by omega]; exact hr0), (show jTt (σ107 42) (σ107 85) (σ107 55 55).toInt by rw [show σ107 42 = σ 42 from ((f109 42 (by decide)).trans (f17 42 (by decide))), show σ107 85 = σ 85 from ((f109 85 (by decide)).trans (f17 85 (by decide))), show (σ107 55 55).toInt = (σ 55 55).toInt from by omega]; exact hr1)⟩ hP hS (lv_sub hl [0, 1, 2, 3] rfl)
set_option maxHeartbeats 4000000 in
set_option maxRecDepth 100000 in
theorem law_case_3 {p : Program} {e : Env} {s : State} {m : MethodId} {below : List Frame} {meth : Method} {c : Code} (l : Launch) {b L : Nat} {xs : Nat → Int32} {D : va_G} {cI cL : ClassId} {ad zz : Nat → Nat} (C0 : lw_At p s m meth c b L xs) (hJ : jD ad) (hA : ∀ q, jA ad q → s.heap.size ≤ q) (hK : jK D cI cL s) (hZ : jZ zz (fun q : Nat => s.heap.size ≤ q) s s.heap) {x0 : Int32} (hx0 : 0 ≤ x0.toInt) (hxL : x0.toInt + 6 ≤ (L : Int)) (hL : L ≤ 384) {σ : Nat → Nat → Int32} {τ : Nat → Nat → Int64} {H : Heap} {locs : List Loc} (hS : va_S (fun q : Nat => s.heap.size ≤ q) s.heap H locs) {ls : Array Slot} (hAll : jAll σ τ) (hP : jH D cI cL ad σ τ H) (hl : lv_has ls 4 [(3, .int x0), (2, .ref (ad 55)), (1, .ref (ad 0)), (0, .ref b)]) (ih : ∀ (x1 : Int32) (σ : Nat → Nat → Int32) (τ : Nat → Nat → Int64) (H : Heap) (locs : List Loc) (ls : Array Slot), x1.toInt = x0.toInt + 6 → jAll σ τ → jH D cI cL ad σ τ H → va_S (fun q : Nat => s.heap.size ≤ q) s.heap H locs → lv_has ls 4 [(3, .int x1), (2, .ref (ad 55)), (1, .ref (ad 0)), (0, .ref b)] → W p l e room_1 s m #[Value.ref b] below meth c H locs 90 348600 (lw_Z below #[Value.ref b] s) (F0 m 18 ls [])) : W p l e room_1 s m #[Value.ref b] below meth c H locs 90 348600 (lw_Z below #[Value.ref b] s) (F0 m 325 ls []) := by
  obtain ⟨hx, hb, hr, hml, hown, hts0, hX, hbl, hlocks, hgv⟩ := C0
  have hts : ∀ w ∈ wsL_law, w.before #[Value.ref b] s = true := fun w h => hts0 w (wsL_law_in w h)
  have hbA : ¬ (fun q : Nat => s.heap.size ≤ q) b := Nat.not_le.mpr hbl
  have hown : s.vm.findClass RL = some m.cls := hown
  obtain ⟨hI2, hI9, hI12, hI16, hI18, hI22, hI31, hI38, hI43, hI47, hI50, hI101, hI102, hI103, hI104, hI105, hI106, hI107, hI109, hI110, hI111, hI119, hs_jKept, hs_jBook, ht0, ht1, hr0, hr1⟩ := hAll
  have hL9 : (L : Int) ≤ 384 := by omega
  obtain ⟨i1, i2, w3⟩ : (0 ≤ (σ 38 0).toInt ∧ (σ 38 0).toInt ≤ 20) ∧ (0 ≤ (σ 38 1).toInt ∧ (σ 38 1).toInt ≤ 1000) ∧ (∀ k : Nat, k < 20 → 0 ≤ (σ 39 k).toInt ∧ (σ 39 k).toInt ≤ 6) := id hI38
  obtain ⟨i4, w5, w6, w7⟩ : (0 ≤ (σ 55 32).toInt ∧ (σ 55 32).toInt ≤ 20) ∧ (∀ k : Nat, k < 20 → 0 ≤ (σ 70 k).toInt ∧ (σ 70 k).toInt ≤ 6) ∧ (∀ k : Nat, k < 20 → 0 ≤ (σ 71 k).toInt ∧ (σ 71 k).toInt ≤ 8) ∧ (∀ k : Nat, k < 160 → 0 ≤ (σ 72 k).toInt ∧ (σ 72 k).toInt ≤ 3) := id hI106
  refine lv_aload_n hx hb dL_law_325 rfl (lv_at hl 2 rfl) ?_
  refine lv_aload_n hx hb dL_law_326 rfl (lv_at hl 3 rfl) ?_
  refine lv_iload_n hx hb dL_law_327 rfl (lv_at hl 0 rfl) ?_
  refine lv_iconst (v := 1) hx hb dL_law_328 (by decide) ?_
  have g8 := jrg (rfl : x0.toInt = x0.toInt)
  refine lv_iadd hx hb dL_law_329 ?_
  refine lv_topi (fun x9 ex9 => ?_)
  have tx9 : x9.toInt = x0.toInt + 1 := (jadd ex9 rfl jz_1 (by omega) (by omega)).trans (by omega)
  refine va_sld hx hb hX hbl hbA hS (jin tx9 (by omega) (by omega)) dL_law_330 ?_
  have g10 := jrg (rfl : (xs x9.toNatClampNeg).toInt = (xs x9.toNatClampNeg).toInt)
  refine jcallV (As := [.int (xs x9.toNatClampNeg)]) (rest := []) ⟨hx, hb, hml, hown, hts⟩ hK hP hA hS hZ (c_X11_set l D cI cL ad zz hJ σ τ (xs x9.toNatClampNeg) ((xs x9.toNatClampNeg).toInt) rfl hI2) cw_RL_26 (jc_0 cI cL ad σ τ) rfl ⟨Nat.le_of_ble_eq_true rfl, Nat.le_of_ble_eq_true rfl⟩ rfl rfl rfl hl.1 rfl (Nat.le_of_ble_eq_true rfl) dL_law_331 ⟨Nat.le_of_ble_eq_true rfl, Nat.le_of_ble_eq_true rfl⟩ (fun r12 σ11 τ11 H locs h11 hP hS => ?_)
  obtain ⟨rfl, f13, f14, I15, h11⟩ := h11
  rcases h11 with h17 | h18
  · obtain ⟨q22, k19, k20, k21⟩ := h17
    refine lv_pop hx hb dL_law_334 rfl ?_
    refine lv_aload_n hx hb dL_law_335 rfl (lv_at hl 1 rfl) ?_
    refine lv_aload_n hx hb dL_law_336 rfl (lv_at hl 3 rfl) ?_
    refine lv_iload_n hx hb dL_law_337 rfl (lv_at hl 0 rfl) ?_
    refine lv_iconst (v := 1) hx hb dL_law_338 (by decide) ?_
    refine lv_iadd hx hb dL_law_339 ?_
    refine jtopr ex9.symm ?_
    refine va_sld hx hb hX hbl hbA hS (jin tx9 (by omega) (by omega)) dL_law_340 ?_
    have I23 : jI103 σ11 := jI103_fr (congrFun (f13 55 (by decide)) 9) hI103
    have z24 : (σ11 55 9).toInt = (σ 55 9).toInt := (congrArg Int32.toInt (show σ11 55 9 = (σ 55 9) from (congrFun (f13 55 (by decide)) 9)))
    refine jcallV (As := [.int (xs x9.toNatClampNeg)]) (rest := []) ⟨hx, hb, hml, hown, hts⟩ hK hP hA hS hZ (c_X12_set l D cI cL ad zz hJ σ11 τ (xs x9.toNatClampNeg) ((xs x9.toNatClampNeg).toInt) rfl I23) cw_RL_30 (jc_55 cI cL ad σ11 τ) rfl ⟨Nat.le_of_ble_eq_true rfl, Nat.le_of_ble_eq_true rfl⟩ rfl rfl rfl hl.1 rfl (Nat.le_of_ble_eq_true rfl) dL_law_341 ⟨Nat.le_of_ble_eq_true rfl, Nat.le_of_ble_eq_true rfl⟩ (fun r26 σ25 τ25 H locs h25 hP hS => ?_)
    obtain ⟨rfl, f27, f28, I29, h25⟩ := h25
    rcases h25 with h31 | h32
    · obtain ⟨q36, k33, k34, k35⟩ := h31
      refine lv_pop hx hb dL_law_344 rfl ?_
      refine lv_goto (tgt := 1357) hx hb dL_law_345 (by decide) ?_
      obtain ⟨x37, ex37⟩ : ∃ y : Int32, y = x0 + 6 := ⟨_, rfl⟩
      have tx37 : x37.toInt = x0.toInt + 6 := (jadd ex37 rfl jz_6 (by omega) (by omega)).trans (by omega)
      refine lv_iinc (v := x37) (lv' := [(3, .int x37), (2, .ref (ad 55)), (1, .ref (ad 0)), (0, .ref b)]) hx hb dL_law_1357 hl (k := 0) rfl (by rw [ex37]; rfl) (by decide) rfl (fun ls hl => ?_)
      refine lv_goto (tgt := 18) hx hb dL_law_1360 (by decide) ?_
      have I38 : jI2 σ25 := jI2_fr (congrFun (f27 2 (by decide)) 0) (congrFun (f27 2 (by decide)) 1) (congrFun (f27 2 (by decide)) 2) (congrFun (f27 2 (by decide)) 3) (f27 6 (by decide)) I15
      have I39 : jI9 σ25 := jI9_fr ((congrFun (f27 9 (by decide)) 0).trans (congrFun (f13 9 (by decide)) 0)) ((f27 10 (by decide)).trans (f13 10 (by decide))) ((f27 11 (by decide)).trans (f13 11 (by decide))) hI9
      have I40 : jI12 σ25 := jI12_fr ((congrFun (f27 12 (by decide)) 0).trans (congrFun (f13 12 (by decide)) 0)) ((f27 13 (by decide)).trans (f13 13 (by decide))) hI12
      have I41 : jI16 σ25 := jI16_fr ((congrFun (f27 16 (by decide)) 0).trans (congrFun (f13 16 (by decide)) 0)) ((congrFun (f27 16 (by decide)) 1).trans (congrFun (f13 16 (by decide)) 1)) ((congrFun (f27 16 (by decide)) 2).trans (congrFun (f13 16 (by decide)) 2)) ((f27 17 (by decide)).trans (f13 17 (by decide))) hI16
      have I42 : jI18 σ25 := jI18_fr ((congrFun (f27 18 (by decide)) 0).trans (congrFun (f13 18 (by decide)) 0)) ((f27 19 (by decide)).trans (f13 19 (by decide))) hI18
      have I43 : jI22 σ25 := jI22_fr ((congrFun (f27 22 (by decide)) 0).trans (congrFun (f13 22 (by decide)) 0)) ((f27 23 (by decide)).trans (f13 23 (by decide))) hI22
      have I44 : jI31 σ25 := jI31_fr ((congrFun (f27 31 (by decide)) 8).trans (congrFun (f13 31 (by decide)) 8)) ((f27 33 (by decide)).trans (f13 33 (by decide))) ((f27 36 (by decide)).trans (f13 36 (by decide))) hI31
      have I45 : jI38 σ25 := jI38_fr ((congrFun (f27 38 (by decide)) 0).trans (congrFun (f13 38 (by decide)) 0)) ((congrFun (f27 38 (by decide)) 1).trans (congrFun (f13 38 (by decide)) 1)) ((f27 39 (by decide)).trans (f13 39 (by decide))) hI38
      have I46 : jI43 σ25 := jI43_fr ((congrFun (f27 43 (by decide)) 8).trans (congrFun (f13 43 (by decide)) 8)) hI43
      have I47 : jI47 σ25 := jI47_fr ((congrFun (f27 47 (by decide)) 0).trans (congrFun (f13 47 (by decide)) 0)) ((f27 48 (by decide)).trans (f13 48 (by decide))) ((f27 49 (by decide)).trans (f13 49 (by decide))) hI47
      have I48 : jI50 σ25 := jI50_fr ((f27 52 (by decide)).trans (f13 52 (by decide))) hI50
      have I49 : jI101 σ25 := jI101_fr ((f28 4 (by decide)).trans (congrFun (f13 55 (by decide)) 4)) ((f28 5 (by decide)).trans (congrFun (f13 55 (by decide)) 5)) ((f27 56 (by decide)).trans (f13 56 (by decide))) ((f27 57 (by decide)).trans (f13 57 (by decide))) ((f27 58 (by decide)).trans (f13 58 (by decide))) ((f27 59 (by decide)).trans (f13 59 (by decide))) hI101
      have I50 : jI102 σ25 := jI102_fr ((f28 6 (by decide)).trans (congrFun (f13 55 (by decide)) 6)) ((f27 60 (by decide)).trans (f13 60 (by decide))) ((f27 61 (by decide)).trans (f13 61 (by decide))) hI102
      have I51 : jI104 σ25 := jI104_fr ((f28 10 (by decide)).trans (congrFun (f13 55 (by decide)) 10)) ((f28 12 (by decide)).trans (congrFun (f13 55 (by decide)) 12)) ((f28 13 (by decide)).trans (congrFun (f13 55 (by decide)) 13)) ((f27 62 (by decide)).trans (f13 62 (by decide))) ((f27 67 (by decide)).trans (f13 67 (by decide))) hI104
      have I52 : jI105 σ25 := jI105_fr ((f28 15 (by decide)).trans (congrFun (f13 55 (by decide)) 15)) ((f27 65 (by decide)).trans (f13 65 (by decide))) hI105
      have I53 : jI106 σ25 := jI106_fr ((f28 32 (by decide)).trans (congrFun (f13 55 (by decide)) 32)) ((f27 70 (by decide)).trans (f13 70 (by decide))) ((f27 71 (by decide)).trans (f13 71 (by decide))) ((f27 72 (by decide)).trans (f13 72 (by decide))) hI106
      have I54 : jI107 σ25 := jI107_fr ((f28 12 (by decide)).trans (congrFun (f13 55 (by decide)) 12)) ((f28 47 (by decide)).trans (congrFun (f13 55 (by decide)) 47)) ((f27 80 (by decide)).trans (f13 80 (by decide))) hI107
      have I55 : jI109 σ25 := jI109_fr ((f28 50 (by decide)).trans (congrFun (f13 55 (by decide)) 50)) hI109
      have I56 : jI110 σ25 := jI110_fr ((f27 86 (by decide)).trans (f13 86 (by decide))) ((f27 87 (by decide)).trans (f13 87 (by decide))) hI110
      have I57 : jI111 σ25 := jI111_fr ((f27 79 (by decide)).trans (f13 79 (by decide))) hI111
      have I58 : jI119 σ25 := jI119_fr ((f27 68 (by decide)).trans (f13 68 (by decide))) hI119
      have p59 : jKept σ25 := jKept.fr ((f27 75 (by decide)).trans (f13 75 (by decide))) ((f27 76 (by decide)).trans (f13 76 (by decide))) ((f27 77 (by decide)).trans (f13 77 (by decide))) hs_jKept
      have p60 : jBook σ25 := jBook.fr ((f28 47 (by decide)).trans (congrFun (f13 55 (by decide)) 47)) ((f28 10 (by decide)).trans (congrFun (f13 55 (by decide)) 10)) ((f27 81 (by decide)).trans (f13 81 (by decide))) hs_jBook
      have z61 : (σ25 38 0).toInt = (σ 38 0).toInt := (congrArg Int32.toInt (show σ25 38 0 = (σ 38 0) from ((congrFun (f27 38 (by decide)) 0).trans (congrFun (f13 38 (by decide)) 0))))
      have z62 : (σ25 55 32).toInt = (σ 55 32).toInt := (congrArg Int32.toInt (show σ25 55 32 = (σ 55 32) from ((f28 32 (by decide)).trans (congrFun (f13 55 (by decide)) 32))))
      have z63 : (σ25 38 1).toInt = (σ 38 1).toInt := (congrArg Int32.toInt (show σ25 38 1 = (σ 38 1) from ((congrFun (f27 38 (by decide)) 1).trans (congrFun (f13 38 (by decide)) 1))))
      have z64 : (σ25 55 55).toInt = (σ 55 55).toInt := (congrArg Int32.toInt (show σ25 55 55 = (σ 55 55) from ((f28 55 (by decide)).trans (congrFun (f13 55 (by decide)) 55))))
      exact ih x37 σ25 τ _ _ ls (by have h9 := tx37; omega) ⟨I38, I39, I40, I41, I42, I43, I44, I45, I46, I47, I48, I49, I50, I29, I51, I52, I53, I54, I55, I56, I57, I58, p59, p60, (by omega), (by omega), (show jKd (σ25 39) (σ25 70) (σ25 55 32).toInt by rw [show σ25 39 = σ 39 from ((f27 39 (by decide)).trans (f13 39 (by decide))), show σ25 70 = σ 70 from ((f27 70 (by decide)).trans (f13 70 (by decide))), show (σ25 55 32).toInt = (σ 55 32).toInt from by omega]; exact hr0), (show jTt (σ25 42) (σ25 85) (σ25 55 55).toInt by rw [show σ25 42 = σ 42 from ((f27 42 (by decide)).trans (f13 42 (by decide))), show σ25 85 = σ 85 from ((f27 85 (by decide)).trans (f13 85 (by decide))), show (σ25 55 55).toInt = (σ 55 55).toInt from by omega]; exact hr1)⟩ hP hS (lv_sub hl [0, 1, 2, 3] rfl)
    · obtain ⟨q67, k65, k66⟩ := h32
      exact absurd (by omega : False) id
  · obtain ⟨q70, k68, k69⟩ := h18
    have q70 := q70.symm
    subst q70
    refine lv_pop hx hb dL_law_334 rfl ?_
    refine lv_aload_n hx hb dL_law_335 rfl (lv_at hl 1 rfl) ?_
    refine lv_aload_n hx hb dL_law_336 rfl (lv_at hl 3 rfl) ?_
    refine lv_iload_n hx hb dL_law_337 rfl (lv_at hl 0 rfl) ?_
    refine lv_iconst (v := 1) hx hb dL_law_338 (by decide) ?_
    refine lv_iadd hx hb dL_law_339 ?_
    refine jtopr ex9.symm ?_
    refine va_sld hx hb hX hbl hbA hS (jin tx9 (by omega) (by omega)) dL_law_340 ?_
    have I71 : jI103 σ11 := jI103_fr (congrFun (f13 55 (by decide)) 9) hI103
    have z72 : (σ11 55 9).toInt = (σ 55 9).toInt := (congrArg Int32.toInt (show σ11 55 9 = (σ 55 9) from (congrFun (f13 55 (by decide)) 9)))
    refine jcallV (As := [.int (xs x9.toNatClampNeg)]) (rest := []) ⟨hx, hb, hml, hown, hts⟩ hK hP hA hS hZ (c_X12_set l D cI cL ad zz hJ σ11 τ (xs x9.toNatClampNeg) ((xs x9.toNatClampNeg).toInt) rfl I71) cw_RL_30 (jc_55 cI cL ad σ11 τ) rfl ⟨Nat.le_of_ble_eq_true rfl, Nat.le_of_ble_eq_true rfl⟩ rfl rfl rfl hl.1 rfl (Nat.le_of_ble_eq_true rfl) dL_law_341 ⟨Nat.le_of_ble_eq_true rfl, Nat.le_of_ble_eq_true rfl⟩ (fun r74 σ73 τ73 H locs h73 hP hS => ?_)
    obtain ⟨rfl, f75, f76, I77, h73⟩ := h73
    rcases h73 with h79 | h80
    · obtain ⟨q84, k81, k82, k83⟩ := h79
      exact absurd (by omega : False) id
    · obtain ⟨q87, k85, k86⟩ := h80
      have q87 := q87.symm
      subst q87
      refine lv_pop hx hb dL_law_344 rfl ?_
      refine lv_goto (tgt := 1357) hx hb dL_law_345 (by decide) ?_
      obtain ⟨x88, ex88⟩ : ∃ y : Int32, y = x0 + 6 := ⟨_, rfl⟩
      have tx88 : x88.toInt = x0.toInt + 6 := (jadd ex88 rfl jz_6 (by omega) (by omega)).trans (by omega)
      refine lv_iinc (v := x88) (lv' := [(3, .int x88), (2, .ref (ad 55)), (1, .ref (ad 0)), (0, .ref b)]) hx hb dL_law_1357 hl (k := 0) rfl (by rw [ex88]; rfl) (by decide) rfl (fun ls hl => ?_)
      refine lv_goto (tgt := 18) hx hb dL_law_1360 (by decide) ?_
      have I89 : jI2 σ73 := jI2_fr (congrFun (f75 2 (by decide)) 0) (congrFun (f75 2 (by decide)) 1) (congrFun (f75 2 (by decide)) 2) (congrFun (f75 2 (by decide)) 3) (f75 6 (by decide)) I15
      have I90 : jI9 σ73 := jI9_fr ((congrFun (f75 9 (by decide)) 0).trans (congrFun (f13 9 (by decide)) 0)) ((f75 10 (by decide)).trans (f13 10 (by decide))) ((f75 11 (by decide)).trans (f13 11 (by decide))) hI9
      have I91 : jI12 σ73 := jI12_fr ((congrFun (f75 12 (by decide)) 0).trans (congrFun (f13 12 (by decide)) 0)) ((f75 13 (by decide)).trans (f13 13 (by decide))) hI12
      have I92 : jI16 σ73 := jI16_fr ((congrFun (f75 16 (by decide)) 0).trans (congrFun (f13 16 (by decide)) 0)) ((congrFun (f75 16 (by decide)) 1).trans (congrFun (f13 16 (by decide)) 1)) ((congrFun (f75 16 (by decide)) 2).trans (congrFun (f13 16 (by decide)) 2)) ((f75 17 (by decide)).trans (f13 17 (by decide))) hI16
      have I93 : jI18 σ73 := jI18_fr ((congrFun (f75 18 (by decide)) 0).trans (congrFun (f13 18 (by decide)) 0)) ((f75 19 (by decide)).trans (f13 19 (by decide))) hI18
      have I94 : jI22 σ73 := jI22_fr ((congrFun (f75 22 (by decide)) 0).trans (congrFun (f13 22 (by decide)) 0)) ((f75 23 (by decide)).trans (f13 23 (by decide))) hI22
      have I95 : jI31 σ73 := jI31_fr ((congrFun (f75 31 (by decide)) 8).trans (congrFun (f13 31 (by decide)) 8)) ((f75 33 (by decide)).trans (f13 33 (by decide))) ((f75 36 (by decide)).trans (f13 36 (by decide))) hI31
      have I96 : jI38 σ73 := jI38_fr ((congrFun (f75 38 (by decide)) 0).trans (congrFun (f13 38 (by decide)) 0)) ((congrFun (f75 38 (by decide)) 1).trans (congrFun (f13 38 (by decide)) 1)) ((f75 39 (by decide)).trans (f13 39 (by decide))) hI38
      have I97 : jI43 σ73 := jI43_fr ((congrFun (f75 43 (by decide)) 8).trans (congrFun (f13 43 (by decide)) 8)) hI43
      have I98 : jI47 σ73 := jI47_fr ((congrFun (f75 47 (by decide)) 0).trans (congrFun (f13 47 (by decide)) 0)) ((f75 48 (by decide)).trans (f13 48 (by decide))) ((f75 49 (by decide)).trans (f13 49 (by decide))) hI47
      have I99 : jI50 σ73 := jI50_fr ((f75 52 (by decide)).trans (f13 52 (by decide))) hI50
      have I100 : jI101 σ73 := jI101_fr ((f76 4 (by decide)).trans (congrFun (f13 55 (by decide)) 4)) ((f76 5 (by decide)).trans (congrFun (f13 55 (by decide)) 5)) ((f75 56 (by decide)).trans (f13 56 (by decide))) ((f75 57 (by decide)).trans (f13 57 (by decide))) ((f75 58 (by decide)).trans (f13 58 (by decide))) ((f75 59 (by decide)).trans (f13 59 (by decide))) hI101
      have I101 : jI102 σ73 := jI102_fr ((f76 6 (by decide)).trans (congrFun (f13 55 (by decide)) 6)) ((f75 60 (by decide)).trans (f13 60 (by decide))) ((f75 61 (by decide)).trans (f13 61 (by decide))) hI102
      have I102 : jI104 σ73 := jI104_fr ((f76 10 (by decide)).trans (congrFun (f13 55 (by decide)) 10)) ((f76 12 (by decide)).trans (congrFun (f13 55 (by decide)) 12)) ((f76 13 (by decide)).trans (congrFun (f13 55 (by decide)) 13)) ((f75 62 (by decide)).trans (f13 62 (by decide))) ((f75 67 (by decide)).trans (f13 67 (by decide))) hI104
      have I103 : jI105 σ73 := jI105_fr ((f76 15 (by decide)).trans (congrFun (f13 55 (by decide)) 15)) ((f75 65 (by decide)).trans (f13 65 (by decide))) hI105
      have I104 : jI106 σ73 := jI106_fr ((f76 32 (by decide)).trans (congrFun (f13 55 (by decide)) 32)) ((f75 70 (by decide)).trans (f13 70 (by decide))) ((f75 71 (by decide)).trans (f13 71 (by decide))) ((f75 72 (by decide)).trans (f13 72 (by decide))) hI106
      have I105 : jI107 σ73 := jI107_fr ((f76 12 (by decide)).trans (congrFun (f13 55 (by decide)) 12)) ((f76 47 (by decide)).trans (congrFun (f13 55 (by decide)) 47)) ((f75 80 (by decide)).trans (f13 80 (by decide))) hI107
      have I106 : jI109 σ73 := jI109_fr ((f76 50 (by decide)).trans (congrFun (f13 55 (by decide)) 50)) hI109
      have I107 : jI110 σ73 := jI110_fr ((f75 86 (by decide)).trans (f13 86 (by decide))) ((f75 87 (by decide)).trans (f13 87 (by decide))) hI110
      have I108 : jI111 σ73 := jI111_fr ((f75 79 (by decide)).trans (f13 79 (by decide))) hI111
      have I109 : jI119 σ73 := jI119_fr ((f75 68 (by decide)).trans (f13 68 (by decide))) hI119
      have p110 : jKept σ73 := jKept.fr ((f75 75 (by decide)).trans (f13 75 (by decide))) ((f75 76 (by decide)).trans (f13 76 (by decide))) ((f75 77 (by decide)).trans (f13 77 (by decide))) hs_jKept
      have p111 : jBook σ73 := jBook.fr ((f76 47 (by decide)).trans (congrFun (f13 55 (by decide)) 47)) ((f76 10 (by decide)).trans (congrFun (f13 55 (by decide)) 10)) ((f75 81 (by decide)).trans (f13 81 (by decide))) hs_jBook
      have z112 : (σ73 38 0).toInt = (σ 38 0).toInt := (congrArg Int32.toInt (show σ73 38 0 = (σ 38 0) from ((congrFun (f75 38 (by decide)) 0).trans (congrFun (f13 38 (by decide)) 0))))
      have z113 : (σ73 55 32).toInt = (σ 55 32).toInt := (congrArg Int32.toInt (show σ73 55 32 = (σ 55 32) from ((f76 32 (by decide)).trans (congrFun (f13 55 (by decide)) 32))))
      have z114 : (σ73 38 1).toInt = (σ 38 1).toInt := (congrArg Int32.toInt (show σ73 38 1 = (σ 38 1) from ((congrFun (f75 38 (by decide)) 1).trans (congrFun (f13 38 (by decide)) 1))))
      have z115 : (σ73 55 55).toInt = (σ 55 55).toInt := (congrArg Int32.toInt (show σ73 55 55 = (σ 55 55) from ((f76 55 (by decide)).trans (congrFun (f13 55 (by decide)) 55))))
      exact ih x88 σ73 τ _ _ ls (by have h9 := tx88; omega) ⟨I89, I90, I91, I92, I93, I94, I95, I96, I97, I98, I99, I100, I101, I77, I102, I103, I104, I105, I106, I107, I108, I109, p110, p111, (by omega), (by omega), (show jKd (σ73 39) (σ73 70) (σ73 55 32).toInt by rw [show σ73 39 = σ 39 from ((f75 39 (by decide)).trans (f13 39 (by decide))), show σ73 70 = σ 70 from ((f75 70 (by decide)).trans (f13 70 (by decide))), show (σ73 55 32).toInt = (σ 55 32).toInt from by omega]; exact hr0), (show jTt (σ73 42) (σ73 85) (σ73 55 55).toInt by rw [show σ73 42 = σ 42 from ((f75 42 (by decide)).trans (f13 42 (by decide))), show σ73 85 = σ 85 from ((f75 85 (by decide)).trans (f13 85 (by decide))), show (σ73 55 55).toInt = (σ 55 55).toInt from by omega]; exact hr1)⟩ hP hS (lv_sub hl [0, 1, 2, 3] rfl)
set_option maxHeartbeats 4000000 in
set_option maxRecDepth 100000 in
theorem law_case_4 {p : Program} {e : Env} {s : State} {m : MethodId} {below : List Frame} {meth : Method} {c : Code} (l : Launch) {b L : Nat} {xs : Nat → Int32} {D : va_G} {cI cL : ClassId} {ad zz : Nat → Nat} (C0 : lw_At p s m meth c b L xs) (hJ : jD ad) (hA : ∀ q, jA ad q → s.heap.size ≤ q) (hK : jK D cI cL s) (hZ : jZ zz (fun q : Nat => s.heap.size ≤ q) s s.heap) {x0 : Int32} (hx0 : 0 ≤ x0.toInt) (hxL : x0.toInt + 6 ≤ (L : Int)) (hL : L ≤ 384) {σ : Nat → Nat → Int32} {τ : Nat → Nat → Int64} {H : Heap} {locs : List Loc} (hS : va_S (fun q : Nat => s.heap.size ≤ q) s.heap H locs) {ls : Array Slot} (hAll : jAll σ τ) (hP : jH D cI cL ad σ τ H) (hl : lv_has ls 4 [(3, .int x0), (2, .ref (ad 55)), (1, .ref (ad 0)), (0, .ref b)]) (ih : ∀ (x1 : Int32) (σ : Nat → Nat → Int32) (τ : Nat → Nat → Int64) (H : Heap) (locs : List Loc) (ls : Array Slot), x1.toInt = x0.toInt + 6 → jAll σ τ → jH D cI cL ad σ τ H → va_S (fun q : Nat => s.heap.size ≤ q) s.heap H locs → lv_has ls 4 [(3, .int x1), (2, .ref (ad 55)), (1, .ref (ad 0)), (0, .ref b)] → W p l e room_1 s m #[Value.ref b] below meth c H locs 90 348600 (lw_Z below #[Value.ref b] s) (F0 m 18 ls [])) : W p l e room_1 s m #[Value.ref b] below meth c H locs 90 348600 (lw_Z below #[Value.ref b] s) (F0 m 348 ls []) := by
  obtain ⟨hx, hb, hr, hml, hown, hts0, hX, hbl, hlocks, hgv⟩ := C0
  have hts : ∀ w ∈ wsL_law, w.before #[Value.ref b] s = true := fun w h => hts0 w (wsL_law_in w h)
  have hbA : ¬ (fun q : Nat => s.heap.size ≤ q) b := Nat.not_le.mpr hbl
  have hown : s.vm.findClass RL = some m.cls := hown
  obtain ⟨hI2, hI9, hI12, hI16, hI18, hI22, hI31, hI38, hI43, hI47, hI50, hI101, hI102, hI103, hI104, hI105, hI106, hI107, hI109, hI110, hI111, hI119, hs_jKept, hs_jBook, ht0, ht1, hr0, hr1⟩ := hAll
  have hL9 : (L : Int) ≤ 384 := by omega
  obtain ⟨i1, i2, w3⟩ : (0 ≤ (σ 38 0).toInt ∧ (σ 38 0).toInt ≤ 20) ∧ (0 ≤ (σ 38 1).toInt ∧ (σ 38 1).toInt ≤ 1000) ∧ (∀ k : Nat, k < 20 → 0 ≤ (σ 39 k).toInt ∧ (σ 39 k).toInt ≤ 6) := id hI38
  obtain ⟨i4, w5, w6, w7⟩ : (0 ≤ (σ 55 32).toInt ∧ (σ 55 32).toInt ≤ 20) ∧ (∀ k : Nat, k < 20 → 0 ≤ (σ 70 k).toInt ∧ (σ 70 k).toInt ≤ 6) ∧ (∀ k : Nat, k < 20 → 0 ≤ (σ 71 k).toInt ∧ (σ 71 k).toInt ≤ 8) ∧ (∀ k : Nat, k < 160 → 0 ≤ (σ 72 k).toInt ∧ (σ 72 k).toInt ≤ 3) := id hI106
  refine lv_aload_n hx hb dL_law_348 rfl (lv_at hl 2 rfl) ?_
  refine lv_aload_n hx hb dL_law_349 rfl (lv_at hl 3 rfl) ?_
  refine lv_iload_n hx hb dL_law_350 rfl (lv_at hl 0 rfl) ?_
  refine lv_iconst (v := 1) hx hb dL_law_351 (by decide) ?_
  have g8 := jrg (rfl : x0.toInt = x0.toInt)
  refine lv_iadd hx hb dL_law_352 ?_
  refine lv_topi (fun x9 ex9 => ?_)
  have tx9 : x9.toInt = x0.toInt + 1 := (jadd ex9 rfl jz_1 (by omega) (by omega)).trans (by omega)
  refine va_sld hx hb hX hbl hbA hS (jin tx9 (by omega) (by omega)) dL_law_353 ?_
  have g10 := jrg (rfl : (xs x9.toNatClampNeg).toInt = (xs x9.toNatClampNeg).toInt)
  refine lv_aload_n hx hb dL_law_354 rfl (lv_at hl 3 rfl) ?_
  refine lv_iload_n hx hb dL_law_355 rfl (lv_at hl 0 rfl) ?_
  refine lv_iconst (v := 2) hx hb dL_law_356 (by decide) ?_
  refine lv_iadd hx hb dL_law_357 ?_
  refine lv_topi (fun x11 ex11 => ?_)
  have tx11 : x11.toInt = x0.toInt + 2 := (jadd ex11 rfl jz_2 (by omega) (by omega)).trans (by omega)
  refine va_sld hx hb hX hbl hbA hS (jin tx11 (by omega) (by omega)) dL_law_358 ?_
  have g12 := jrg (rfl : (xs x11.toNatClampNeg).toInt = (xs x11.toNatClampNeg).toInt)
  refine jcallV (As := [.int (xs x9.toNatClampNeg), .int (xs x11.toNatClampNeg)]) (rest := []) ⟨hx, hb, hml, hown, hts⟩ hK hP hA hS hZ (c_X11_feed l D cI cL ad zz hJ σ τ (xs x9.toNatClampNeg) ((xs x9.toNatClampNeg).toInt) rfl (xs x11.toNatClampNeg) ((xs x11.toNatClampNeg).toInt) rfl hI9) cw_RL_31 (jc_0 cI cL ad σ τ) rfl ⟨Nat.le_of_ble_eq_true rfl, Nat.le_of_ble_eq_true rfl⟩ rfl rfl rfl hl.1 rfl (Nat.le_of_ble_eq_true rfl) dL_law_359 ⟨Nat.le_of_ble_eq_true rfl, Nat.le_of_ble_eq_true rfl⟩ (fun r14 σ13 τ13 H locs h13 hP hS => ?_)
  obtain ⟨rfl, f15, f16, I17, h13⟩ := h13
  rcases h13 with h19 | h20 | h21
  · obtain ⟨q25, k22, k23, k24⟩ := h19
    have q25 := q25.symm
    subst q25
    refine lv_pop hx hb dL_law_362 rfl ?_
    refine lv_aload_n hx hb dL_law_363 rfl (lv_at hl 1 rfl) ?_
    refine lv_aload_n hx hb dL_law_364 rfl (lv_at hl 3 rfl) ?_
    refine lv_iload_n hx hb dL_law_365 rfl (lv_at hl 0 rfl) ?_
    refine lv_iconst (v := 1) hx hb dL_law_366 (by decide) ?_
    refine lv_iadd hx hb dL_law_367 ?_
    refine jtopr ex9.symm ?_
    refine va_sld hx hb hX hbl hbA hS (jin tx9 (by omega) (by omega)) dL_law_368 ?_
    refine lv_aload_n hx hb dL_law_369 rfl (lv_at hl 3 rfl) ?_
    refine lv_iload_n hx hb dL_law_370 rfl (lv_at hl 0 rfl) ?_
    refine lv_iconst (v := 2) hx hb dL_law_371 (by decide) ?_
    refine lv_iadd hx hb dL_law_372 ?_
    refine jtopr ex11.symm ?_
    refine va_sld hx hb hX hbl hbA hS (jin tx11 (by omega) (by omega)) dL_law_373 ?_
    have I26 : jI105 σ13 := jI105_fr (congrFun (f15 55 (by decide)) 15) (f15 65 (by decide)) hI105
    have z27 : (σ13 55 15).toInt = (σ 55 15).toInt := (congrArg Int32.toInt (show σ13 55 15 = (σ 55 15) from (congrFun (f15 55 (by decide)) 15)))
    refine jcallV (As := [.int (xs x9.toNatClampNeg), .int (xs x11.toNatClampNeg)]) (rest := []) ⟨hx, hb, hml, hown, hts⟩ hK hP hA hS hZ (c_X12_feed l D cI cL ad zz hJ σ13 τ (xs x9.toNatClampNeg) ((xs x9.toNatClampNeg).toInt) rfl (xs x11.toNatClampNeg) ((xs x11.toNatClampNeg).toInt) rfl I26) cw_RL_35 (jc_55 cI cL ad σ13 τ) rfl ⟨Nat.le_of_ble_eq_true rfl, Nat.le_of_ble_eq_true rfl⟩ rfl rfl rfl hl.1 rfl (Nat.le_of_ble_eq_true rfl) dL_law_374 ⟨Nat.le_of_ble_eq_true rfl, Nat.le_of_ble_eq_true rfl⟩ (fun r29 σ28 τ28 H locs h28 hP hS => ?_)
    obtain ⟨rfl, f30, f31, I32, h28⟩ := h28
    rcases h28 with h34 | h35 | h36
    · obtain ⟨q40, k37, k38, k39⟩ := h34
      have q40 := q40.symm
      subst q40
      refine lv_pop hx hb dL_law_377 rfl ?_
      refine lv_goto (tgt := 1357) hx hb dL_law_378 (by decide) ?_
      obtain ⟨x41, ex41⟩ : ∃ y : Int32, y = x0 + 6 := ⟨_, rfl⟩
      have tx41 : x41.toInt = x0.toInt + 6 := (jadd ex41 rfl jz_6 (by omega) (by omega)).trans (by omega)
      refine lv_iinc (v := x41) (lv' := [(3, .int x41), (2, .ref (ad 55)), (1, .ref (ad 0)), (0, .ref b)]) hx hb dL_law_1357 hl (k := 0) rfl (by rw [ex41]; rfl) (by decide) rfl (fun ls hl => ?_)
      refine lv_goto (tgt := 18) hx hb dL_law_1360 (by decide) ?_
      have I42 : jI2 σ28 := jI2_fr ((congrFun (f30 2 (by decide)) 0).trans (congrFun (f15 2 (by decide)) 0)) ((congrFun (f30 2 (by decide)) 1).trans (congrFun (f15 2 (by decide)) 1)) ((congrFun (f30 2 (by decide)) 2).trans (congrFun (f15 2 (by decide)) 2)) ((congrFun (f30 2 (by decide)) 3).trans (congrFun (f15 2 (by decide)) 3)) ((f30 6 (by decide)).trans (f15 6 (by decide))) hI2
      have I43 : jI9 σ28 := jI9_fr (congrFun (f30 9 (by decide)) 0) (f30 10 (by decide)) (f30 11 (by decide)) I17
      have I44 : jI12 σ28 := jI12_fr ((congrFun (f30 12 (by decide)) 0).trans (congrFun (f15 12 (by decide)) 0)) ((f30 13 (by decide)).trans (f15 13 (by decide))) hI12
      have I45 : jI16 σ28 := jI16_fr ((congrFun (f30 16 (by decide)) 0).trans (congrFun (f15 16 (by decide)) 0)) ((congrFun (f30 16 (by decide)) 1).trans (congrFun (f15 16 (by decide)) 1)) ((congrFun (f30 16 (by decide)) 2).trans (congrFun (f15 16 (by decide)) 2)) ((f30 17 (by decide)).trans (f15 17 (by decide))) hI16
      have I46 : jI18 σ28 := jI18_fr ((congrFun (f30 18 (by decide)) 0).trans (congrFun (f15 18 (by decide)) 0)) ((f30 19 (by decide)).trans (f15 19 (by decide))) hI18
      have I47 : jI22 σ28 := jI22_fr ((congrFun (f30 22 (by decide)) 0).trans (congrFun (f15 22 (by decide)) 0)) ((f30 23 (by decide)).trans (f15 23 (by decide))) hI22
      have I48 : jI31 σ28 := jI31_fr ((congrFun (f30 31 (by decide)) 8).trans (congrFun (f15 31 (by decide)) 8)) ((f30 33 (by decide)).trans (f15 33 (by decide))) ((f30 36 (by decide)).trans (f15 36 (by decide))) hI31
      have I49 : jI38 σ28 := jI38_fr ((congrFun (f30 38 (by decide)) 0).trans (congrFun (f15 38 (by decide)) 0)) ((congrFun (f30 38 (by decide)) 1).trans (congrFun (f15 38 (by decide)) 1)) ((f30 39 (by decide)).trans (f15 39 (by decide))) hI38
      have I50 : jI43 σ28 := jI43_fr ((congrFun (f30 43 (by decide)) 8).trans (congrFun (f15 43 (by decide)) 8)) hI43
      have I51 : jI47 σ28 := jI47_fr ((congrFun (f30 47 (by decide)) 0).trans (congrFun (f15 47 (by decide)) 0)) ((f30 48 (by decide)).trans (f15 48 (by decide))) ((f30 49 (by decide)).trans (f15 49 (by decide))) hI47
      have I52 : jI50 σ28 := jI50_fr ((f30 52 (by decide)).trans (f15 52 (by decide))) hI50
      have I53 : jI101 σ28 := jI101_fr ((f31 4 (by decide)).trans (congrFun (f15 55 (by decide)) 4)) ((f31 5 (by decide)).trans (congrFun (f15 55 (by decide)) 5)) ((f30 56 (by decide)).trans (f15 56 (by decide))) ((f30 57 (by decide)).trans (f15 57 (by decide))) ((f30 58 (by decide)).trans (f15 58 (by decide))) ((f30 59 (by decide)).trans (f15 59 (by decide))) hI101
      have I54 : jI102 σ28 := jI102_fr ((f31 6 (by decide)).trans (congrFun (f15 55 (by decide)) 6)) ((f30 60 (by decide)).trans (f15 60 (by decide))) ((f30 61 (by decide)).trans (f15 61 (by decide))) hI102
      have I55 : jI103 σ28 := jI103_fr ((f31 9 (by decide)).trans (congrFun (f15 55 (by decide)) 9)) hI103
      have I56 : jI104 σ28 := jI104_fr ((f31 10 (by decide)).trans (congrFun (f15 55 (by decide)) 10)) ((f31 12 (by decide)).trans (congrFun (f15 55 (by decide)) 12)) ((f31 13 (by decide)).trans (congrFun (f15 55 (by decide)) 13)) ((f30 62 (by decide)).trans (f15 62 (by decide))) ((f30 67 (by decide)).trans (f15 67 (by decide))) hI104
      have I57 : jI106 σ28 := jI106_fr ((f31 32 (by decide)).trans (congrFun (f15 55 (by decide)) 32)) ((f30 70 (by decide)).trans (f15 70 (by decide))) ((f30 71 (by decide)).trans (f15 71 (by decide))) ((f30 72 (by decide)).trans (f15 72 (by decide))) hI106
      have I58 : jI107 σ28 := jI107_fr ((f31 12 (by decide)).trans (congrFun (f15 55 (by decide)) 12)) ((f31 47 (by decide)).trans (congrFun (f15 55 (by decide)) 47)) ((f30 80 (by decide)).trans (f15 80 (by decide))) hI107
      have I59 : jI109 σ28 := jI109_fr ((f31 50 (by decide)).trans (congrFun (f15 55 (by decide)) 50)) hI109
      have I60 : jI110 σ28 := jI110_fr ((f30 86 (by decide)).trans (f15 86 (by decide))) ((f30 87 (by decide)).trans (f15 87 (by decide))) hI110
      have I61 : jI111 σ28 := jI111_fr ((f30 79 (by decide)).trans (f15 79 (by decide))) hI111
      have I62 : jI119 σ28 := jI119_fr ((f30 68 (by decide)).trans (f15 68 (by decide))) hI119
      have p63 : jKept σ28 := jKept.fr ((f30 75 (by decide)).trans (f15 75 (by decide))) ((f30 76 (by decide)).trans (f15 76 (by decide))) ((f30 77 (by decide)).trans (f15 77 (by decide))) hs_jKept
      have p64 : jBook σ28 := jBook.fr ((f31 47 (by decide)).trans (congrFun (f15 55 (by decide)) 47)) ((f31 10 (by decide)).trans (congrFun (f15 55 (by decide)) 10)) ((f30 81 (by decide)).trans (f15 81 (by decide))) hs_jBook
      have z65 : (σ28 38 0).toInt = (σ 38 0).toInt := (congrArg Int32.toInt (show σ28 38 0 = (σ 38 0) from ((congrFun (f30 38 (by decide)) 0).trans (congrFun (f15 38 (by decide)) 0))))
      have z66 : (σ28 55 32).toInt = (σ 55 32).toInt := (congrArg Int32.toInt (show σ28 55 32 = (σ 55 32) from ((f31 32 (by decide)).trans (congrFun (f15 55 (by decide)) 32))))
      have z67 : (σ28 38 1).toInt = (σ 38 1).toInt := (congrArg Int32.toInt (show σ28 38 1 = (σ 38 1) from ((congrFun (f30 38 (by decide)) 1).trans (congrFun (f15 38 (by decide)) 1))))
      have z68 : (σ28 55 55).toInt = (σ 55 55).toInt := (congrArg Int32.toInt (show σ28 55 55 = (σ 55 55) from ((f31 55 (by decide)).trans (congrFun (f15 55 (by decide)) 55))))
      exact ih x41 σ28 τ _ _ ls (by have h9 := tx41; omega) ⟨I42, I43, I44, I45, I46, I47, I48, I49, I50, I51, I52, I53, I54, I55, I56, I32, I57, I58, I59, I60, I61, I62, p63, p64, (by omega), (by omega), (show jKd (σ28 39) (σ28 70) (σ28 55 32).toInt by rw [show σ28 39 = σ 39 from ((f30 39 (by decide)).trans (f15 39 (by decide))), show σ28 70 = σ 70 from ((f30 70 (by decide)).trans (f15 70 (by decide))), show (σ28 55 32).toInt = (σ 55 32).toInt from by omega]; exact hr0), (show jTt (σ28 42) (σ28 85) (σ28 55 55).toInt by rw [show σ28 42 = σ 42 from ((f30 42 (by decide)).trans (f15 42 (by decide))), show σ28 85 = σ 85 from ((f30 85 (by decide)).trans (f15 85 (by decide))), show (σ28 55 55).toInt = (σ 55 55).toInt from by omega]; exact hr1)⟩ hP hS (lv_sub hl [0, 1, 2, 3] rfl)
    · obtain ⟨q73, k69, k70, k71, k72⟩ := h35
      exact absurd (by omega : False) id
    · obtain ⟨q79, k74, k75, k76, k77, k78⟩ := h36
      exact absurd (by omega : False) id
  · obtain ⟨q84, k80, k81, k82, k83⟩ := h20
    have q84 := q84.symm
    subst q84
    refine lv_pop hx hb dL_law_362 rfl ?_
    refine lv_aload_n hx hb dL_law_363 rfl (lv_at hl 1 rfl) ?_
    refine lv_aload_n hx hb dL_law_364 rfl (lv_at hl 3 rfl) ?_
    refine lv_iload_n hx hb dL_law_365 rfl (lv_at hl 0 rfl) ?_
    refine lv_iconst (v := 1) hx hb dL_law_366 (by decide) ?_
    refine lv_iadd hx hb dL_law_367 ?_
    refine jtopr ex9.symm ?_
    refine va_sld hx hb hX hbl hbA hS (jin tx9 (by omega) (by omega)) dL_law_368 ?_
    refine lv_aload_n hx hb dL_law_369 rfl (lv_at hl 3 rfl) ?_
    refine lv_iload_n hx hb dL_law_370 rfl (lv_at hl 0 rfl) ?_
    refine lv_iconst (v := 2) hx hb dL_law_371 (by decide) ?_
    refine lv_iadd hx hb dL_law_372 ?_
    refine jtopr ex11.symm ?_
    refine va_sld hx hb hX hbl hbA hS (jin tx11 (by omega) (by omega)) dL_law_373 ?_
    have I85 : jI105 σ13 := jI105_fr (congrFun (f15 55 (by decide)) 15) (f15 65 (by decide)) hI105
    have z86 : (σ13 55 15).toInt = (σ 55 15).toInt := (congrArg Int32.toInt (show σ13 55 15 = (σ 55 15) from (congrFun (f15 55 (by decide)) 15)))
    refine jcallV (As := [.int (xs x9.toNatClampNeg), .int (xs x11.toNatClampNeg)]) (rest := []) ⟨hx, hb, hml, hown, hts⟩ hK hP hA hS hZ (c_X12_feed l D cI cL ad zz hJ σ13 τ (xs x9.toNatClampNeg) ((xs x9.toNatClampNeg).toInt) rfl (xs x11.toNatClampNeg) ((xs x11.toNatClampNeg).toInt) rfl I85) cw_RL_35 (jc_55 cI cL ad σ13 τ) rfl ⟨Nat.le_of_ble_eq_true rfl, Nat.le_of_ble_eq_true rfl⟩ rfl rfl rfl hl.1 rfl (Nat.le_of_ble_eq_true rfl) dL_law_374 ⟨Nat.le_of_ble_eq_true rfl, Nat.le_of_ble_eq_true rfl⟩ (fun r88 σ87 τ87 H locs h87 hP hS => ?_)
    obtain ⟨rfl, f89, f90, I91, h87⟩ := h87
    rcases h87 with h93 | h94 | h95
    · obtain ⟨q99, k96, k97, k98⟩ := h93
      exact absurd (by omega : False) id
    · obtain ⟨q104, k100, k101, k102, k103⟩ := h94
      have q104 := q104.symm
      subst q104
      refine lv_pop hx hb dL_law_377 rfl ?_
      refine lv_goto (tgt := 1357) hx hb dL_law_378 (by decide) ?_
      obtain ⟨x105, ex105⟩ : ∃ y : Int32, y = x0 + 6 := ⟨_, rfl⟩
      have tx105 : x105.toInt = x0.toInt + 6 := (jadd ex105 rfl jz_6 (by omega) (by omega)).trans (by omega)
      refine lv_iinc (v := x105) (lv' := [(3, .int x105), (2, .ref (ad 55)), (1, .ref (ad 0)), (0, .ref b)]) hx hb dL_law_1357 hl (k := 0) rfl (by rw [ex105]; rfl) (by decide) rfl (fun ls hl => ?_)
      refine lv_goto (tgt := 18) hx hb dL_law_1360 (by decide) ?_
      have I106 : jI2 σ87 := jI2_fr ((congrFun (f89 2 (by decide)) 0).trans (congrFun (f15 2 (by decide)) 0)) ((congrFun (f89 2 (by decide)) 1).trans (congrFun (f15 2 (by decide)) 1)) ((congrFun (f89 2 (by decide)) 2).trans (congrFun (f15 2 (by decide)) 2)) ((congrFun (f89 2 (by decide)) 3).trans (congrFun (f15 2 (by decide)) 3)) ((f89 6 (by decide)).trans (f15 6 (by decide))) hI2
      have I107 : jI9 σ87 := jI9_fr (congrFun (f89 9 (by decide)) 0) (f89 10 (by decide)) (f89 11 (by decide)) I17
      have I108 : jI12 σ87 := jI12_fr ((congrFun (f89 12 (by decide)) 0).trans (congrFun (f15 12 (by decide)) 0)) ((f89 13 (by decide)).trans (f15 13 (by decide))) hI12
      have I109 : jI16 σ87 := jI16_fr ((congrFun (f89 16 (by decide)) 0).trans (congrFun (f15 16 (by decide)) 0)) ((congrFun (f89 16 (by decide)) 1).trans (congrFun (f15 16 (by decide)) 1)) ((congrFun (f89 16 (by decide)) 2).trans (congrFun (f15 16 (by decide)) 2)) ((f89 17 (by decide)).trans (f15 17 (by decide))) hI16
      have I110 : jI18 σ87 := jI18_fr ((congrFun (f89 18 (by decide)) 0).trans (congrFun (f15 18 (by decide)) 0)) ((f89 19 (by decide)).trans (f15 19 (by decide))) hI18
      have I111 : jI22 σ87 := jI22_fr ((congrFun (f89 22 (by decide)) 0).trans (congrFun (f15 22 (by decide)) 0)) ((f89 23 (by decide)).trans (f15 23 (by decide))) hI22
      have I112 : jI31 σ87 := jI31_fr ((congrFun (f89 31 (by decide)) 8).trans (congrFun (f15 31 (by decide)) 8)) ((f89 33 (by decide)).trans (f15 33 (by decide))) ((f89 36 (by decide)).trans (f15 36 (by decide))) hI31
      have I113 : jI38 σ87 := jI38_fr ((congrFun (f89 38 (by decide)) 0).trans (congrFun (f15 38 (by decide)) 0)) ((congrFun (f89 38 (by decide)) 1).trans (congrFun (f15 38 (by decide)) 1)) ((f89 39 (by decide)).trans (f15 39 (by decide))) hI38
      have I114 : jI43 σ87 := jI43_fr ((congrFun (f89 43 (by decide)) 8).trans (congrFun (f15 43 (by decide)) 8)) hI43
      have I115 : jI47 σ87 := jI47_fr ((congrFun (f89 47 (by decide)) 0).trans (congrFun (f15 47 (by decide)) 0)) ((f89 48 (by decide)).trans (f15 48 (by decide))) ((f89 49 (by decide)).trans (f15 49 (by decide))) hI47
      have I116 : jI50 σ87 := jI50_fr ((f89 52 (by decide)).trans (f15 52 (by decide))) hI50
      have I117 : jI101 σ87 := jI101_fr ((f90 4 (by decide)).trans (congrFun (f15 55 (by decide)) 4)) ((f90 5 (by decide)).trans (congrFun (f15 55 (by decide)) 5)) ((f89 56 (by decide)).trans (f15 56 (by decide))) ((f89 57 (by decide)).trans (f15 57 (by decide))) ((f89 58 (by decide)).trans (f15 58 (by decide))) ((f89 59 (by decide)).trans (f15 59 (by decide))) hI101
      have I118 : jI102 σ87 := jI102_fr ((f90 6 (by decide)).trans (congrFun (f15 55 (by decide)) 6)) ((f89 60 (by decide)).trans (f15 60 (by decide))) ((f89 61 (by decide)).trans (f15 61 (by decide))) hI102
      have I119 : jI103 σ87 := jI103_fr ((f90 9 (by decide)).trans (congrFun (f15 55 (by decide)) 9)) hI103
      have I120 : jI104 σ87 := jI104_fr ((f90 10 (by decide)).trans (congrFun (f15 55 (by decide)) 10)) ((f90 12 (by decide)).trans (congrFun (f15 55 (by decide)) 12)) ((f90 13 (by decide)).trans (congrFun (f15 55 (by decide)) 13)) ((f89 62 (by decide)).trans (f15 62 (by decide))) ((f89 67 (by decide)).trans (f15 67 (by decide))) hI104
      have I121 : jI106 σ87 := jI106_fr ((f90 32 (by decide)).trans (congrFun (f15 55 (by decide)) 32)) ((f89 70 (by decide)).trans (f15 70 (by decide))) ((f89 71 (by decide)).trans (f15 71 (by decide))) ((f89 72 (by decide)).trans (f15 72 (by decide))) hI106
      have I122 : jI107 σ87 := jI107_fr ((f90 12 (by decide)).trans (congrFun (f15 55 (by decide)) 12)) ((f90 47 (by decide)).trans (congrFun (f15 55 (by decide)) 47)) ((f89 80 (by decide)).trans (f15 80 (by decide))) hI107
      have I123 : jI109 σ87 := jI109_fr ((f90 50 (by decide)).trans (congrFun (f15 55 (by decide)) 50)) hI109
      have I124 : jI110 σ87 := jI110_fr ((f89 86 (by decide)).trans (f15 86 (by decide))) ((f89 87 (by decide)).trans (f15 87 (by decide))) hI110
      have I125 : jI111 σ87 := jI111_fr ((f89 79 (by decide)).trans (f15 79 (by decide))) hI111
      have I126 : jI119 σ87 := jI119_fr ((f89 68 (by decide)).trans (f15 68 (by decide))) hI119
      have p127 : jKept σ87 := jKept.fr ((f89 75 (by decide)).trans (f15 75 (by decide))) ((f89 76 (by decide)).trans (f15 76 (by decide))) ((f89 77 (by decide)).trans (f15 77 (by decide))) hs_jKept
      have p128 : jBook σ87 := jBook.fr ((f90 47 (by decide)).trans (congrFun (f15 55 (by decide)) 47)) ((f90 10 (by decide)).trans (congrFun (f15 55 (by decide)) 10)) ((f89 81 (by decide)).trans (f15 81 (by decide))) hs_jBook
      have z129 : (σ87 38 0).toInt = (σ 38 0).toInt := (congrArg Int32.toInt (show σ87 38 0 = (σ 38 0) from ((congrFun (f89 38 (by decide)) 0).trans (congrFun (f15 38 (by decide)) 0))))
      have z130 : (σ87 55 32).toInt = (σ 55 32).toInt := (congrArg Int32.toInt (show σ87 55 32 = (σ 55 32) from ((f90 32 (by decide)).trans (congrFun (f15 55 (by decide)) 32))))
      have z131 : (σ87 38 1).toInt = (σ 38 1).toInt := (congrArg Int32.toInt (show σ87 38 1 = (σ 38 1) from ((congrFun (f89 38 (by decide)) 1).trans (congrFun (f15 38 (by decide)) 1))))
      have z132 : (σ87 55 55).toInt = (σ 55 55).toInt := (congrArg Int32.toInt (show σ87 55 55 = (σ 55 55) from ((f90 55 (by decide)).trans (congrFun (f15 55 (by decide)) 55))))
      exact ih x105 σ87 τ _ _ ls (by have h9 := tx105; omega) ⟨I106, I107, I108, I109, I110, I111, I112, I113, I114, I115, I116, I117, I118, I119, I120, I91, I121, I122, I123, I124, I125, I126, p127, p128, (by omega), (by omega), (show jKd (σ87 39) (σ87 70) (σ87 55 32).toInt by rw [show σ87 39 = σ 39 from ((f89 39 (by decide)).trans (f15 39 (by decide))), show σ87 70 = σ 70 from ((f89 70 (by decide)).trans (f15 70 (by decide))), show (σ87 55 32).toInt = (σ 55 32).toInt from by omega]; exact hr0), (show jTt (σ87 42) (σ87 85) (σ87 55 55).toInt by rw [show σ87 42 = σ 42 from ((f89 42 (by decide)).trans (f15 42 (by decide))), show σ87 85 = σ 85 from ((f89 85 (by decide)).trans (f15 85 (by decide))), show (σ87 55 55).toInt = (σ 55 55).toInt from by omega]; exact hr1)⟩ hP hS (lv_sub hl [0, 1, 2, 3] rfl)
    · obtain ⟨q138, k133, k134, k135, k136, k137⟩ := h95
      refine lv_pop hx hb dL_law_377 rfl ?_
      refine lv_goto (tgt := 1357) hx hb dL_law_378 (by decide) ?_
      obtain ⟨x139, ex139⟩ : ∃ y : Int32, y = x0 + 6 := ⟨_, rfl⟩
      have tx139 : x139.toInt = x0.toInt + 6 := (jadd ex139 rfl jz_6 (by omega) (by omega)).trans (by omega)
      refine lv_iinc (v := x139) (lv' := [(3, .int x139), (2, .ref (ad 55)), (1, .ref (ad 0)), (0, .ref b)]) hx hb dL_law_1357 hl (k := 0) rfl (by rw [ex139]; rfl) (by decide) rfl (fun ls hl => ?_)
      refine lv_goto (tgt := 18) hx hb dL_law_1360 (by decide) ?_
      have I140 : jI2 σ87 := jI2_fr ((congrFun (f89 2 (by decide)) 0).trans (congrFun (f15 2 (by decide)) 0)) ((congrFun (f89 2 (by decide)) 1).trans (congrFun (f15 2 (by decide)) 1)) ((congrFun (f89 2 (by decide)) 2).trans (congrFun (f15 2 (by decide)) 2)) ((congrFun (f89 2 (by decide)) 3).trans (congrFun (f15 2 (by decide)) 3)) ((f89 6 (by decide)).trans (f15 6 (by decide))) hI2
      have I141 : jI9 σ87 := jI9_fr (congrFun (f89 9 (by decide)) 0) (f89 10 (by decide)) (f89 11 (by decide)) I17
      have I142 : jI12 σ87 := jI12_fr ((congrFun (f89 12 (by decide)) 0).trans (congrFun (f15 12 (by decide)) 0)) ((f89 13 (by decide)).trans (f15 13 (by decide))) hI12
      have I143 : jI16 σ87 := jI16_fr ((congrFun (f89 16 (by decide)) 0).trans (congrFun (f15 16 (by decide)) 0)) ((congrFun (f89 16 (by decide)) 1).trans (congrFun (f15 16 (by decide)) 1)) ((congrFun (f89 16 (by decide)) 2).trans (congrFun (f15 16 (by decide)) 2)) ((f89 17 (by decide)).trans (f15 17 (by decide))) hI16
      have I144 : jI18 σ87 := jI18_fr ((congrFun (f89 18 (by decide)) 0).trans (congrFun (f15 18 (by decide)) 0)) ((f89 19 (by decide)).trans (f15 19 (by decide))) hI18
      have I145 : jI22 σ87 := jI22_fr ((congrFun (f89 22 (by decide)) 0).trans (congrFun (f15 22 (by decide)) 0)) ((f89 23 (by decide)).trans (f15 23 (by decide))) hI22
      have I146 : jI31 σ87 := jI31_fr ((congrFun (f89 31 (by decide)) 8).trans (congrFun (f15 31 (by decide)) 8)) ((f89 33 (by decide)).trans (f15 33 (by decide))) ((f89 36 (by decide)).trans (f15 36 (by decide))) hI31
      have I147 : jI38 σ87 := jI38_fr ((congrFun (f89 38 (by decide)) 0).trans (congrFun (f15 38 (by decide)) 0)) ((congrFun (f89 38 (by decide)) 1).trans (congrFun (f15 38 (by decide)) 1)) ((f89 39 (by decide)).trans (f15 39 (by decide))) hI38
      have I148 : jI43 σ87 := jI43_fr ((congrFun (f89 43 (by decide)) 8).trans (congrFun (f15 43 (by decide)) 8)) hI43
      have I149 : jI47 σ87 := jI47_fr ((congrFun (f89 47 (by decide)) 0).trans (congrFun (f15 47 (by decide)) 0)) ((f89 48 (by decide)).trans (f15 48 (by decide))) ((f89 49 (by decide)).trans (f15 49 (by decide))) hI47
      have I150 : jI50 σ87 := jI50_fr ((f89 52 (by decide)).trans (f15 52 (by decide))) hI50
      have I151 : jI101 σ87 := jI101_fr ((f90 4 (by decide)).trans (congrFun (f15 55 (by decide)) 4)) ((f90 5 (by decide)).trans (congrFun (f15 55 (by decide)) 5)) ((f89 56 (by decide)).trans (f15 56 (by decide))) ((f89 57 (by decide)).trans (f15 57 (by decide))) ((f89 58 (by decide)).trans (f15 58 (by decide))) ((f89 59 (by decide)).trans (f15 59 (by decide))) hI101
      have I152 : jI102 σ87 := jI102_fr ((f90 6 (by decide)).trans (congrFun (f15 55 (by decide)) 6)) ((f89 60 (by decide)).trans (f15 60 (by decide))) ((f89 61 (by decide)).trans (f15 61 (by decide))) hI102
      have I153 : jI103 σ87 := jI103_fr ((f90 9 (by decide)).trans (congrFun (f15 55 (by decide)) 9)) hI103
      have I154 : jI104 σ87 := jI104_fr ((f90 10 (by decide)).trans (congrFun (f15 55 (by decide)) 10)) ((f90 12 (by decide)).trans (congrFun (f15 55 (by decide)) 12)) ((f90 13 (by decide)).trans (congrFun (f15 55 (by decide)) 13)) ((f89 62 (by decide)).trans (f15 62 (by decide))) ((f89 67 (by decide)).trans (f15 67 (by decide))) hI104
      have I155 : jI106 σ87 := jI106_fr ((f90 32 (by decide)).trans (congrFun (f15 55 (by decide)) 32)) ((f89 70 (by decide)).trans (f15 70 (by decide))) ((f89 71 (by decide)).trans (f15 71 (by decide))) ((f89 72 (by decide)).trans (f15 72 (by decide))) hI106
      have I156 : jI107 σ87 := jI107_fr ((f90 12 (by decide)).trans (congrFun (f15 55 (by decide)) 12)) ((f90 47 (by decide)).trans (congrFun (f15 55 (by decide)) 47)) ((f89 80 (by decide)).trans (f15 80 (by decide))) hI107
      have I157 : jI109 σ87 := jI109_fr ((f90 50 (by decide)).trans (congrFun (f15 55 (by decide)) 50)) hI109
      have I158 : jI110 σ87 := jI110_fr ((f89 86 (by decide)).trans (f15 86 (by decide))) ((f89 87 (by decide)).trans (f15 87 (by decide))) hI110
      have I159 : jI111 σ87 := jI111_fr ((f89 79 (by decide)).trans (f15 79 (by decide))) hI111
      have I160 : jI119 σ87 := jI119_fr ((f89 68 (by decide)).trans (f15 68 (by decide))) hI119
      have p161 : jKept σ87 := jKept.fr ((f89 75 (by decide)).trans (f15 75 (by decide))) ((f89 76 (by decide)).trans (f15 76 (by decide))) ((f89 77 (by decide)).trans (f15 77 (by decide))) hs_jKept
      have p162 : jBook σ87 := jBook.fr ((f90 47 (by decide)).trans (congrFun (f15 55 (by decide)) 47)) ((f90 10 (by decide)).trans (congrFun (f15 55 (by decide)) 10)) ((f89 81 (by decide)).trans (f15 81 (by decide))) hs_jBook
      have z163 : (σ87 38 0).toInt = (σ 38 0).toInt := (congrArg Int32.toInt (show σ87 38 0 = (σ 38 0) from ((congrFun (f89 38 (by decide)) 0).trans (congrFun (f15 38 (by decide)) 0))))
      have z164 : (σ87 55 32).toInt = (σ 55 32).toInt := (congrArg Int32.toInt (show σ87 55 32 = (σ 55 32) from ((f90 32 (by decide)).trans (congrFun (f15 55 (by decide)) 32))))
      have z165 : (σ87 38 1).toInt = (σ 38 1).toInt := (congrArg Int32.toInt (show σ87 38 1 = (σ 38 1) from ((congrFun (f89 38 (by decide)) 1).trans (congrFun (f15 38 (by decide)) 1))))
      have z166 : (σ87 55 55).toInt = (σ 55 55).toInt := (congrArg Int32.toInt (show σ87 55 55 = (σ 55 55) from ((f90 55 (by decide)).trans (congrFun (f15 55 (by decide)) 55))))
      exact ih x139 σ87 τ _ _ ls (by have h9 := tx139; omega) ⟨I140, I141, I142, I143, I144, I145, I146, I147, I148, I149, I150, I151, I152, I153, I154, I91, I155, I156, I157, I158, I159, I160, p161, p162, (by omega), (by omega), (show jKd (σ87 39) (σ87 70) (σ87 55 32).toInt by rw [show σ87 39 = σ 39 from ((f89 39 (by decide)).trans (f15 39 (by decide))), show σ87 70 = σ 70 from ((f89 70 (by decide)).trans (f15 70 (by decide))), show (σ87 55 32).toInt = (σ 55 32).toInt from by omega]; exact hr0), (show jTt (σ87 42) (σ87 85) (σ87 55 55).toInt by rw [show σ87 42 = σ 42 from ((f89 42 (by decide)).trans (f15 42 (by decide))), show σ87 85 = σ 85 from ((f89 85 (by decide)).trans (f15 85 (by decide))), show (σ87 55 55).toInt = (σ 55 55).toInt from by omega]; exact hr1)⟩ hP hS (lv_sub hl [0, 1, 2, 3] rfl)
  · obtain ⟨q172, k167, k168, k169, k170, k171⟩ := h21
    refine lv_pop hx hb dL_law_362 rfl ?_
    refine lv_aload_n hx hb dL_law_363 rfl (lv_at hl 1 rfl) ?_
    refine lv_aload_n hx hb dL_law_364 rfl (lv_at hl 3 rfl) ?_
    refine lv_iload_n hx hb dL_law_365 rfl (lv_at hl 0 rfl) ?_
    refine lv_iconst (v := 1) hx hb dL_law_366 (by decide) ?_
    refine lv_iadd hx hb dL_law_367 ?_
    refine jtopr ex9.symm ?_
    refine va_sld hx hb hX hbl hbA hS (jin tx9 (by omega) (by omega)) dL_law_368 ?_
    refine lv_aload_n hx hb dL_law_369 rfl (lv_at hl 3 rfl) ?_
    refine lv_iload_n hx hb dL_law_370 rfl (lv_at hl 0 rfl) ?_
    refine lv_iconst (v := 2) hx hb dL_law_371 (by decide) ?_
    refine lv_iadd hx hb dL_law_372 ?_
    refine jtopr ex11.symm ?_
    refine va_sld hx hb hX hbl hbA hS (jin tx11 (by omega) (by omega)) dL_law_373 ?_
    have I173 : jI105 σ13 := jI105_fr (congrFun (f15 55 (by decide)) 15) (f15 65 (by decide)) hI105
    have z174 : (σ13 55 15).toInt = (σ 55 15).toInt := (congrArg Int32.toInt (show σ13 55 15 = (σ 55 15) from (congrFun (f15 55 (by decide)) 15)))
    refine jcallV (As := [.int (xs x9.toNatClampNeg), .int (xs x11.toNatClampNeg)]) (rest := []) ⟨hx, hb, hml, hown, hts⟩ hK hP hA hS hZ (c_X12_feed l D cI cL ad zz hJ σ13 τ (xs x9.toNatClampNeg) ((xs x9.toNatClampNeg).toInt) rfl (xs x11.toNatClampNeg) ((xs x11.toNatClampNeg).toInt) rfl I173) cw_RL_35 (jc_55 cI cL ad σ13 τ) rfl ⟨Nat.le_of_ble_eq_true rfl, Nat.le_of_ble_eq_true rfl⟩ rfl rfl rfl hl.1 rfl (Nat.le_of_ble_eq_true rfl) dL_law_374 ⟨Nat.le_of_ble_eq_true rfl, Nat.le_of_ble_eq_true rfl⟩ (fun r176 σ175 τ175 H locs h175 hP hS => ?_)
    obtain ⟨rfl, f177, f178, I179, h175⟩ := h175
    rcases h175 with h181 | h182 | h183
    · obtain ⟨q187, k184, k185, k186⟩ := h181
      exact absurd (by omega : False) id
    · obtain ⟨q192, k188, k189, k190, k191⟩ := h182
      have q192 := q192.symm
      subst q192
      refine lv_pop hx hb dL_law_377 rfl ?_
      refine lv_goto (tgt := 1357) hx hb dL_law_378 (by decide) ?_
      obtain ⟨x193, ex193⟩ : ∃ y : Int32, y = x0 + 6 := ⟨_, rfl⟩
      have tx193 : x193.toInt = x0.toInt + 6 := (jadd ex193 rfl jz_6 (by omega) (by omega)).trans (by omega)
      refine lv_iinc (v := x193) (lv' := [(3, .int x193), (2, .ref (ad 55)), (1, .ref (ad 0)), (0, .ref b)]) hx hb dL_law_1357 hl (k := 0) rfl (by rw [ex193]; rfl) (by decide) rfl (fun ls hl => ?_)
      refine lv_goto (tgt := 18) hx hb dL_law_1360 (by decide) ?_
      have I194 : jI2 σ175 := jI2_fr ((congrFun (f177 2 (by decide)) 0).trans (congrFun (f15 2 (by decide)) 0)) ((congrFun (f177 2 (by decide)) 1).trans (congrFun (f15 2 (by decide)) 1)) ((congrFun (f177 2 (by decide)) 2).trans (congrFun (f15 2 (by decide)) 2)) ((congrFun (f177 2 (by decide)) 3).trans (congrFun (f15 2 (by decide)) 3)) ((f177 6 (by decide)).trans (f15 6 (by decide))) hI2
      have I195 : jI9 σ175 := jI9_fr (congrFun (f177 9 (by decide)) 0) (f177 10 (by decide)) (f177 11 (by decide)) I17
      have I196 : jI12 σ175 := jI12_fr ((congrFun (f177 12 (by decide)) 0).trans (congrFun (f15 12 (by decide)) 0)) ((f177 13 (by decide)).trans (f15 13 (by decide))) hI12
      have I197 : jI16 σ175 := jI16_fr ((congrFun (f177 16 (by decide)) 0).trans (congrFun (f15 16 (by decide)) 0)) ((congrFun (f177 16 (by decide)) 1).trans (congrFun (f15 16 (by decide)) 1)) ((congrFun (f177 16 (by decide)) 2).trans (congrFun (f15 16 (by decide)) 2)) ((f177 17 (by decide)).trans (f15 17 (by decide))) hI16
      have I198 : jI18 σ175 := jI18_fr ((congrFun (f177 18 (by decide)) 0).trans (congrFun (f15 18 (by decide)) 0)) ((f177 19 (by decide)).trans (f15 19 (by decide))) hI18
      have I199 : jI22 σ175 := jI22_fr ((congrFun (f177 22 (by decide)) 0).trans (congrFun (f15 22 (by decide)) 0)) ((f177 23 (by decide)).trans (f15 23 (by decide))) hI22
      have I200 : jI31 σ175 := jI31_fr ((congrFun (f177 31 (by decide)) 8).trans (congrFun (f15 31 (by decide)) 8)) ((f177 33 (by decide)).trans (f15 33 (by decide))) ((f177 36 (by decide)).trans (f15 36 (by decide))) hI31
      have I201 : jI38 σ175 := jI38_fr ((congrFun (f177 38 (by decide)) 0).trans (congrFun (f15 38 (by decide)) 0)) ((congrFun (f177 38 (by decide)) 1).trans (congrFun (f15 38 (by decide)) 1)) ((f177 39 (by decide)).trans (f15 39 (by decide))) hI38
      have I202 : jI43 σ175 := jI43_fr ((congrFun (f177 43 (by decide)) 8).trans (congrFun (f15 43 (by decide)) 8)) hI43
      have I203 : jI47 σ175 := jI47_fr ((congrFun (f177 47 (by decide)) 0).trans (congrFun (f15 47 (by decide)) 0)) ((f177 48 (by decide)).trans (f15 48 (by decide))) ((f177 49 (by decide)).trans (f15 49 (by decide))) hI47
      have I204 : jI50 σ175 := jI50_fr ((f177 52 (by decide)).trans (f15 52 (by decide))) hI50
      have I205 : jI101 σ175 := jI101_fr ((f178 4 (by decide)).trans (congrFun (f15 55 (by decide)) 4)) ((f178 5 (by decide)).trans (congrFun (f15 55 (by decide)) 5)) ((f177 56 (by decide)).trans (f15 56 (by decide))) ((f177 57 (by decide)).trans (f15 57 (by decide))) ((f177 58 (by decide)).trans (f15 58 (by decide))) ((f177 59 (by decide)).trans (f15 59 (by decide))) hI101
      have I206 : jI102 σ175 := jI102_fr ((f178 6 (by decide)).trans (congrFun (f15 55 (by decide)) 6)) ((f177 60 (by decide)).trans (f15 60 (by decide))) ((f177 61 (by decide)).trans (f15 61 (by decide))) hI102
      have I207 : jI103 σ175 := jI103_fr ((f178 9 (by decide)).trans (congrFun (f15 55 (by decide)) 9)) hI103
      have I208 : jI104 σ175 := jI104_fr ((f178 10 (by decide)).trans (congrFun (f15 55 (by decide)) 10)) ((f178 12 (by decide)).trans (congrFun (f15 55 (by decide)) 12)) ((f178 13 (by decide)).trans (congrFun (f15 55 (by decide)) 13)) ((f177 62 (by decide)).trans (f15 62 (by decide))) ((f177 67 (by decide)).trans (f15 67 (by decide))) hI104
      have I209 : jI106 σ175 := jI106_fr ((f178 32 (by decide)).trans (congrFun (f15 55 (by decide)) 32)) ((f177 70 (by decide)).trans (f15 70 (by decide))) ((f177 71 (by decide)).trans (f15 71 (by decide))) ((f177 72 (by decide)).trans (f15 72 (by decide))) hI106
      have I210 : jI107 σ175 := jI107_fr ((f178 12 (by decide)).trans (congrFun (f15 55 (by decide)) 12)) ((f178 47 (by decide)).trans (congrFun (f15 55 (by decide)) 47)) ((f177 80 (by decide)).trans (f15 80 (by decide))) hI107
      have I211 : jI109 σ175 := jI109_fr ((f178 50 (by decide)).trans (congrFun (f15 55 (by decide)) 50)) hI109
      have I212 : jI110 σ175 := jI110_fr ((f177 86 (by decide)).trans (f15 86 (by decide))) ((f177 87 (by decide)).trans (f15 87 (by decide))) hI110
      have I213 : jI111 σ175 := jI111_fr ((f177 79 (by decide)).trans (f15 79 (by decide))) hI111
      have I214 : jI119 σ175 := jI119_fr ((f177 68 (by decide)).trans (f15 68 (by decide))) hI119
      have p215 : jKept σ175 := jKept.fr ((f177 75 (by decide)).trans (f15 75 (by decide))) ((f177 76 (by decide)).trans (f15 76 (by decide))) ((f177 77 (by decide)).trans (f15 77 (by decide))) hs_jKept
      have p216 : jBook σ175 := jBook.fr ((f178 47 (by decide)).trans (congrFun (f15 55 (by decide)) 47)) ((f178 10 (by decide)).trans (congrFun (f15 55 (by decide)) 10)) ((f177 81 (by decide)).trans (f15 81 (by decide))) hs_jBook
      have z217 : (σ175 38 0).toInt = (σ 38 0).toInt := (congrArg Int32.toInt (show σ175 38 0 = (σ 38 0) from ((congrFun (f177 38 (by decide)) 0).trans (congrFun (f15 38 (by decide)) 0))))
      have z218 : (σ175 55 32).toInt = (σ 55 32).toInt := (congrArg Int32.toInt (show σ175 55 32 = (σ 55 32) from ((f178 32 (by decide)).trans (congrFun (f15 55 (by decide)) 32))))
      have z219 : (σ175 38 1).toInt = (σ 38 1).toInt := (congrArg Int32.toInt (show σ175 38 1 = (σ 38 1) from ((congrFun (f177 38 (by decide)) 1).trans (congrFun (f15 38 (by decide)) 1))))
      have z220 : (σ175 55 55).toInt = (σ 55 55).toInt := (congrArg Int32.toInt (show σ175 55 55 = (σ 55 55) from ((f178 55 (by decide)).trans (congrFun (f15 55 (by decide)) 55))))
      exact ih x193 σ175 τ _ _ ls (by have h9 := tx193; omega) ⟨I194, I195, I196, I197, I198, I199, I200, I201, I202, I203, I204, I205, I206, I207, I208, I179, I209, I210, I211, I212, I213, I214, p215, p216, (by omega), (by omega), (show jKd (σ175 39) (σ175 70) (σ175 55 32).toInt by rw [show σ175 39 = σ 39 from ((f177 39 (by decide)).trans (f15 39 (by decide))), show σ175 70 = σ 70 from ((f177 70 (by decide)).trans (f15 70 (by decide))), show (σ175 55 32).toInt = (σ 55 32).toInt from by omega]; exact hr0), (show jTt (σ175 42) (σ175 85) (σ175 55 55).toInt by rw [show σ175 42 = σ 42 from ((f177 42 (by decide)).trans (f15 42 (by decide))), show σ175 85 = σ 85 from ((f177 85 (by decide)).trans (f15 85 (by decide))), show (σ175 55 55).toInt = (σ 55 55).toInt from by omega]; exact hr1)⟩ hP hS (lv_sub hl [0, 1, 2, 3] rfl)
    · obtain ⟨q226, k221, k222, k223, k224, k225⟩ := h183
      refine lv_pop hx hb dL_law_377 rfl ?_
      refine lv_goto (tgt := 1357) hx hb dL_law_378 (by decide) ?_
      obtain ⟨x227, ex227⟩ : ∃ y : Int32, y = x0 + 6 := ⟨_, rfl⟩
      have tx227 : x227.toInt = x0.toInt + 6 := (jadd ex227 rfl jz_6 (by omega) (by omega)).trans (by omega)
      refine lv_iinc (v := x227) (lv' := [(3, .int x227), (2, .ref (ad 55)), (1, .ref (ad 0)), (0, .ref b)]) hx hb dL_law_1357 hl (k := 0) rfl (by rw [ex227]; rfl) (by decide) rfl (fun ls hl => ?_)
      refine lv_goto (tgt := 18) hx hb dL_law_1360 (by decide) ?_
      have I228 : jI2 σ175 := jI2_fr ((congrFun (f177 2 (by decide)) 0).trans (congrFun (f15 2 (by decide)) 0)) ((congrFun (f177 2 (by decide)) 1).trans (congrFun (f15 2 (by decide)) 1)) ((congrFun (f177 2 (by decide)) 2).trans (congrFun (f15 2 (by decide)) 2)) ((congrFun (f177 2 (by decide)) 3).trans (congrFun (f15 2 (by decide)) 3)) ((f177 6 (by decide)).trans (f15 6 (by decide))) hI2
      have I229 : jI9 σ175 := jI9_fr (congrFun (f177 9 (by decide)) 0) (f177 10 (by decide)) (f177 11 (by decide)) I17
      have I230 : jI12 σ175 := jI12_fr ((congrFun (f177 12 (by decide)) 0).trans (congrFun (f15 12 (by decide)) 0)) ((f177 13 (by decide)).trans (f15 13 (by decide))) hI12
      have I231 : jI16 σ175 := jI16_fr ((congrFun (f177 16 (by decide)) 0).trans (congrFun (f15 16 (by decide)) 0)) ((congrFun (f177 16 (by decide)) 1).trans (congrFun (f15 16 (by decide)) 1)) ((congrFun (f177 16 (by decide)) 2).trans (congrFun (f15 16 (by decide)) 2)) ((f177 17 (by decide)).trans (f15 17 (by decide))) hI16
      have I232 : jI18 σ175 := jI18_fr ((congrFun (f177 18 (by decide)) 0).trans (congrFun (f15 18 (by decide)) 0)) ((f177 19 (by decide)).trans (f15 19 (by decide))) hI18
      have I233 : jI22 σ175 := jI22_fr ((congrFun (f177 22 (by decide)) 0).trans (congrFun (f15 22 (by decide)) 0)) ((f177 23 (by decide)).trans (f15 23 (by decide))) hI22
      have I234 : jI31 σ175 := jI31_fr ((congrFun (f177 31 (by decide)) 8).trans (congrFun (f15 31 (by decide)) 8)) ((f177 33 (by decide)).trans (f15 33 (by decide))) ((f177 36 (by decide)).trans (f15 36 (by decide))) hI31
      have I235 : jI38 σ175 := jI38_fr ((congrFun (f177 38 (by decide)) 0).trans (congrFun (f15 38 (by decide)) 0)) ((congrFun (f177 38 (by decide)) 1).trans (congrFun (f15 38 (by decide)) 1)) ((f177 39 (by decide)).trans (f15 39 (by decide))) hI38
      have I236 : jI43 σ175 := jI43_fr ((congrFun (f177 43 (by decide)) 8).trans (congrFun (f15 43 (by decide)) 8)) hI43
      have I237 : jI47 σ175 := jI47_fr ((congrFun (f177 47 (by decide)) 0).trans (congrFun (f15 47 (by decide)) 0)) ((f177 48 (by decide)).trans (f15 48 (by decide))) ((f177 49 (by decide)).trans (f15 49 (by decide))) hI47
      have I238 : jI50 σ175 := jI50_fr ((f177 52 (by decide)).trans (f15 52 (by decide))) hI50
      have I239 : jI101 σ175 := jI101_fr ((f178 4 (by decide)).trans (congrFun (f15 55 (by decide)) 4)) ((f178 5 (by decide)).trans (congrFun (f15 55 (by decide)) 5)) ((f177 56 (by decide)).trans (f15 56 (by decide))) ((f177 57 (by decide)).trans (f15 57 (by decide))) ((f177 58 (by decide)).trans (f15 58 (by decide))) ((f177 59 (by decide)).trans (f15 59 (by decide))) hI101
      have I240 : jI102 σ175 := jI102_fr ((f178 6 (by decide)).trans (congrFun (f15 55 (by decide)) 6)) ((f177 60 (by decide)).trans (f15 60 (by decide))) ((f177 61 (by decide)).trans (f15 61 (by decide))) hI102
      have I241 : jI103 σ175 := jI103_fr ((f178 9 (by decide)).trans (congrFun (f15 55 (by decide)) 9)) hI103
      have I242 : jI104 σ175 := jI104_fr ((f178 10 (by decide)).trans (congrFun (f15 55 (by decide)) 10)) ((f178 12 (by decide)).trans (congrFun (f15 55 (by decide)) 12)) ((f178 13 (by decide)).trans (congrFun (f15 55 (by decide)) 13)) ((f177 62 (by decide)).trans (f15 62 (by decide))) ((f177 67 (by decide)).trans (f15 67 (by decide))) hI104
      have I243 : jI106 σ175 := jI106_fr ((f178 32 (by decide)).trans (congrFun (f15 55 (by decide)) 32)) ((f177 70 (by decide)).trans (f15 70 (by decide))) ((f177 71 (by decide)).trans (f15 71 (by decide))) ((f177 72 (by decide)).trans (f15 72 (by decide))) hI106
      have I244 : jI107 σ175 := jI107_fr ((f178 12 (by decide)).trans (congrFun (f15 55 (by decide)) 12)) ((f178 47 (by decide)).trans (congrFun (f15 55 (by decide)) 47)) ((f177 80 (by decide)).trans (f15 80 (by decide))) hI107
      have I245 : jI109 σ175 := jI109_fr ((f178 50 (by decide)).trans (congrFun (f15 55 (by decide)) 50)) hI109
      have I246 : jI110 σ175 := jI110_fr ((f177 86 (by decide)).trans (f15 86 (by decide))) ((f177 87 (by decide)).trans (f15 87 (by decide))) hI110
      have I247 : jI111 σ175 := jI111_fr ((f177 79 (by decide)).trans (f15 79 (by decide))) hI111
      have I248 : jI119 σ175 := jI119_fr ((f177 68 (by decide)).trans (f15 68 (by decide))) hI119
      have p249 : jKept σ175 := jKept.fr ((f177 75 (by decide)).trans (f15 75 (by decide))) ((f177 76 (by decide)).trans (f15 76 (by decide))) ((f177 77 (by decide)).trans (f15 77 (by decide))) hs_jKept
      have p250 : jBook σ175 := jBook.fr ((f178 47 (by decide)).trans (congrFun (f15 55 (by decide)) 47)) ((f178 10 (by decide)).trans (congrFun (f15 55 (by decide)) 10)) ((f177 81 (by decide)).trans (f15 81 (by decide))) hs_jBook
      have z251 : (σ175 38 0).toInt = (σ 38 0).toInt := (congrArg Int32.toInt (show σ175 38 0 = (σ 38 0) from ((congrFun (f177 38 (by decide)) 0).trans (congrFun (f15 38 (by decide)) 0))))
      have z252 : (σ175 55 32).toInt = (σ 55 32).toInt := (congrArg Int32.toInt (show σ175 55 32 = (σ 55 32) from ((f178 32 (by decide)).trans (congrFun (f15 55 (by decide)) 32))))
      have z253 : (σ175 38 1).toInt = (σ 38 1).toInt := (congrArg Int32.toInt (show σ175 38 1 = (σ 38 1) from ((congrFun (f177 38 (by decide)) 1).trans (congrFun (f15 38 (by decide)) 1))))
      have z254 : (σ175 55 55).toInt = (σ 55 55).toInt := (congrArg Int32.toInt (show σ175 55 55 = (σ 55 55) from ((f178 55 (by decide)).trans (congrFun (f15 55 (by decide)) 55))))
      exact ih x227 σ175 τ _ _ ls (by have h9 := tx227; omega) ⟨I228, I229, I230, I231, I232, I233, I234, I235, I236, I237, I238, I239, I240, I241, I242, I179, I243, I244, I245, I246, I247, I248, p249, p250, (by omega), (by omega), (show jKd (σ175 39) (σ175 70) (σ175 55 32).toInt by rw [show σ175 39 = σ 39 from ((f177 39 (by decide)).trans (f15 39 (by decide))), show σ175 70 = σ 70 from ((f177 70 (by decide)).trans (f15 70 (by decide))), show (σ175 55 32).toInt = (σ 55 32).toInt from by omega]; exact hr0), (show jTt (σ175 42) (σ175 85) (σ175 55 55).toInt by rw [show σ175 42 = σ 42 from ((f177 42 (by decide)).trans (f15 42 (by decide))), show σ175 85 = σ 85 from ((f177 85 (by decide)).trans (f15 85 (by decide))), show (σ175 55 55).toInt = (σ 55 55).toInt from by omega]; exact hr1)⟩ hP hS (lv_sub hl [0, 1, 2, 3] rfl)
set_option maxHeartbeats 4000000 in
set_option maxRecDepth 100000 in
theorem law_case_5 {p : Program} {e : Env} {s : State} {m : MethodId} {below : List Frame} {meth : Method} {c : Code} (l : Launch) {b L : Nat} {xs : Nat → Int32} {D : va_G} {cI cL : ClassId} {ad zz : Nat → Nat} (C0 : lw_At p s m meth c b L xs) (hJ : jD ad) (hA : ∀ q, jA ad q → s.heap.size ≤ q) (hK : jK D cI cL s) (hZ : jZ zz (fun q : Nat => s.heap.size ≤ q) s s.heap) {x0 : Int32} (hx0 : 0 ≤ x0.toInt) (hxL : x0.toInt + 6 ≤ (L : Int)) (hL : L ≤ 384) {σ : Nat → Nat → Int32} {τ : Nat → Nat → Int64} {H : Heap} {locs : List Loc} (hS : va_S (fun q : Nat => s.heap.size ≤ q) s.heap H locs) {ls : Array Slot} (hAll : jAll σ τ) (hP : jH D cI cL ad σ τ H) (hl : lv_has ls 4 [(3, .int x0), (2, .ref (ad 55)), (1, .ref (ad 0)), (0, .ref b)]) (ih : ∀ (x1 : Int32) (σ : Nat → Nat → Int32) (τ : Nat → Nat → Int64) (H : Heap) (locs : List Loc) (ls : Array Slot), x1.toInt = x0.toInt + 6 → jAll σ τ → jH D cI cL ad σ τ H → va_S (fun q : Nat => s.heap.size ≤ q) s.heap H locs → lv_has ls 4 [(3, .int x1), (2, .ref (ad 55)), (1, .ref (ad 0)), (0, .ref b)] → W p l e room_1 s m #[Value.ref b] below meth c H locs 90 348600 (lw_Z below #[Value.ref b] s) (F0 m 18 ls [])) : W p l e room_1 s m #[Value.ref b] below meth c H locs 90 348600 (lw_Z below #[Value.ref b] s) (F0 m 381 ls []) := by
  obtain ⟨hx, hb, hr, hml, hown, hts0, hX, hbl, hlocks, hgv⟩ := C0
  have hts : ∀ w ∈ wsL_law, w.before #[Value.ref b] s = true := fun w h => hts0 w (wsL_law_in w h)
  have hbA : ¬ (fun q : Nat => s.heap.size ≤ q) b := Nat.not_le.mpr hbl
  have hown : s.vm.findClass RL = some m.cls := hown
  obtain ⟨hI2, hI9, hI12, hI16, hI18, hI22, hI31, hI38, hI43, hI47, hI50, hI101, hI102, hI103, hI104, hI105, hI106, hI107, hI109, hI110, hI111, hI119, hs_jKept, hs_jBook, ht0, ht1, hr0, hr1⟩ := hAll
  have hL9 : (L : Int) ≤ 384 := by omega
  obtain ⟨i1, i2, w3⟩ : (0 ≤ (σ 38 0).toInt ∧ (σ 38 0).toInt ≤ 20) ∧ (0 ≤ (σ 38 1).toInt ∧ (σ 38 1).toInt ≤ 1000) ∧ (∀ k : Nat, k < 20 → 0 ≤ (σ 39 k).toInt ∧ (σ 39 k).toInt ≤ 6) := id hI38
  obtain ⟨i4, w5, w6, w7⟩ : (0 ≤ (σ 55 32).toInt ∧ (σ 55 32).toInt ≤ 20) ∧ (∀ k : Nat, k < 20 → 0 ≤ (σ 70 k).toInt ∧ (σ 70 k).toInt ≤ 6) ∧ (∀ k : Nat, k < 20 → 0 ≤ (σ 71 k).toInt ∧ (σ 71 k).toInt ≤ 8) ∧ (∀ k : Nat, k < 160 → 0 ≤ (σ 72 k).toInt ∧ (σ 72 k).toInt ≤ 3) := id hI106
  refine lv_aload_n hx hb dL_law_381 rfl (lv_at hl 2 rfl) ?_
  refine jcallV (As := []) (rest := []) ⟨hx, hb, hml, hown, hts⟩ hK hP hA hS hZ (c_X11_order l D cI cL ad zz hJ σ τ hI9 hI16 hI47) cw_RL_36 (jc_0 cI cL ad σ τ) rfl ⟨Nat.le_of_ble_eq_true rfl, Nat.le_of_ble_eq_true rfl⟩ rfl rfl rfl hl.1 rfl (Nat.le_of_ble_eq_true rfl) dL_law_382 ⟨Nat.le_of_ble_eq_true rfl, Nat.le_of_ble_eq_true rfl⟩ (fun r9 σ8 τ8 H locs h8 hP hS => ?_)
  obtain ⟨rfl, f10, f11, f12, f13, I14, I15, I16, w17, h8⟩ := h8
  obtain ⟨k19, h8⟩ := h8
  rcases h8 with h20 | h21
  · obtain ⟨q24, k22, k23⟩ := h20
    refine lv_pop hx hb dL_law_385 rfl ?_
    refine lv_aload_n hx hb dL_law_386 rfl (lv_at hl 1 rfl) ?_
    have I25 : jI104 σ8 := jI104_fr (congrFun (f10 55 (by decide)) 10) (congrFun (f10 55 (by decide)) 12) (congrFun (f10 55 (by decide)) 13) (f10 62 (by decide)) (f10 67 (by decide)) hI104
    have I26 : jI105 σ8 := jI105_fr (congrFun (f10 55 (by decide)) 15) (f10 65 (by decide)) hI105
    have I27 : jI107 σ8 := jI107_fr (congrFun (f10 55 (by decide)) 12) (congrFun (f10 55 (by decide)) 47) (f10 80 (by decide)) hI107
    have p28 : jBook σ8 := jBook.fr (congrFun (f10 55 (by decide)) 47) (congrFun (f10 55 (by decide)) 10) (f10 81 (by decide)) hs_jBook
    have z29 : (σ8 55 47).toInt = (σ 55 47).toInt := (congrArg Int32.toInt (show σ8 55 47 = (σ 55 47) from (congrFun (f10 55 (by decide)) 47)))
    refine jcallV (As := []) (rest := []) ⟨hx, hb, hml, hown, hts⟩ hK hP hA hS hZ (c_X12_order l D cI cL ad zz hJ σ8 τ I25 I26 I27 p28) cw_RL_40 (jc_55 cI cL ad σ8 τ) rfl ⟨Nat.le_of_ble_eq_true rfl, Nat.le_of_ble_eq_true rfl⟩ rfl rfl rfl hl.1 rfl (Nat.le_of_ble_eq_true rfl) dL_law_387 ⟨Nat.le_of_ble_eq_true rfl, Nat.le_of_ble_eq_true rfl⟩ (fun r31 σ30 τ30 H locs h30 hP hS => ?_)
    obtain ⟨rfl, f32, f33, I34, I35, I36, p37, w38, h30⟩ := h30
    obtain ⟨k40, h30⟩ := h30
    rcases h30 with h41 | h42
    · obtain ⟨q45, k43, k44⟩ := h41
      refine lv_pop hx hb dL_law_390 rfl ?_
      refine lv_goto (tgt := 1357) hx hb dL_law_391 (by decide) ?_
      obtain ⟨x46, ex46⟩ : ∃ y : Int32, y = x0 + 6 := ⟨_, rfl⟩
      have tx46 : x46.toInt = x0.toInt + 6 := (jadd ex46 rfl jz_6 (by omega) (by omega)).trans (by omega)
      refine lv_iinc (v := x46) (lv' := [(3, .int x46), (2, .ref (ad 55)), (1, .ref (ad 0)), (0, .ref b)]) hx hb dL_law_1357 hl (k := 0) rfl (by rw [ex46]; rfl) (by decide) rfl (fun ls hl => ?_)
      refine lv_goto (tgt := 18) hx hb dL_law_1360 (by decide) ?_
      have I47 : jI2 σ30 := jI2_fr ((congrFun (f32 2 (by decide)) 0).trans (congrFun (f10 2 (by decide)) 0)) ((congrFun (f32 2 (by decide)) 1).trans (congrFun (f10 2 (by decide)) 1)) ((congrFun (f32 2 (by decide)) 2).trans (congrFun (f10 2 (by decide)) 2)) ((congrFun (f32 2 (by decide)) 3).trans (congrFun (f10 2 (by decide)) 3)) ((f32 6 (by decide)).trans (f10 6 (by decide))) hI2
      have I48 : jI9 σ30 := jI9_fr (congrFun (f32 9 (by decide)) 0) (f32 10 (by decide)) (f32 11 (by decide)) I14
      have I49 : jI12 σ30 := jI12_fr ((congrFun (f32 12 (by decide)) 0).trans (congrFun (f10 12 (by decide)) 0)) ((f32 13 (by decide)).trans (f10 13 (by decide))) hI12
      have I50 : jI16 σ30 := jI16_fr (congrFun (f32 16 (by decide)) 0) (congrFun (f32 16 (by decide)) 1) (congrFun (f32 16 (by decide)) 2) (f32 17 (by decide)) I15
      have I51 : jI18 σ30 := jI18_fr ((congrFun (f32 18 (by decide)) 0).trans (congrFun (f10 18 (by decide)) 0)) ((f32 19 (by decide)).trans (f10 19 (by decide))) hI18
      have I52 : jI22 σ30 := jI22_fr ((congrFun (f32 22 (by decide)) 0).trans (congrFun (f10 22 (by decide)) 0)) ((f32 23 (by decide)).trans (f10 23 (by decide))) hI22
      have I53 : jI31 σ30 := jI31_fr ((congrFun (f32 31 (by decide)) 8).trans (congrFun (f10 31 (by decide)) 8)) ((f32 33 (by decide)).trans (f10 33 (by decide))) ((f32 36 (by decide)).trans (f10 36 (by decide))) hI31
      have I54 : jI38 σ30 := jI38_fr ((congrFun (f32 38 (by decide)) 0).trans (congrFun (f10 38 (by decide)) 0)) ((congrFun (f32 38 (by decide)) 1).trans (congrFun (f10 38 (by decide)) 1)) ((f32 39 (by decide)).trans (f10 39 (by decide))) hI38
      have I55 : jI43 σ30 := jI43_fr ((congrFun (f32 43 (by decide)) 8).trans (congrFun (f10 43 (by decide)) 8)) hI43
      have I56 : jI47 σ30 := jI47_fr (congrFun (f32 47 (by decide)) 0) (f32 48 (by decide)) (f32 49 (by decide)) I16
      have I57 : jI50 σ30 := jI50_fr ((f32 52 (by decide)).trans (f10 52 (by decide))) hI50
      have I58 : jI101 σ30 := jI101_fr ((f33 4 (by decide)).trans (congrFun (f10 55 (by decide)) 4)) ((f33 5 (by decide)).trans (congrFun (f10 55 (by decide)) 5)) ((f32 56 (by decide)).trans (f10 56 (by decide))) ((f32 57 (by decide)).trans (f10 57 (by decide))) ((f32 58 (by decide)).trans (f10 58 (by decide))) ((f32 59 (by decide)).trans (f10 59 (by decide))) hI101
      have I59 : jI102 σ30 := jI102_fr ((f33 6 (by decide)).trans (congrFun (f10 55 (by decide)) 6)) ((f32 60 (by decide)).trans (f10 60 (by decide))) ((f32 61 (by decide)).trans (f10 61 (by decide))) hI102
      have I60 : jI103 σ30 := jI103_fr ((f33 9 (by decide)).trans (congrFun (f10 55 (by decide)) 9)) hI103
      have I61 : jI106 σ30 := jI106_fr ((f33 32 (by decide)).trans (congrFun (f10 55 (by decide)) 32)) ((f32 70 (by decide)).trans (f10 70 (by decide))) ((f32 71 (by decide)).trans (f10 71 (by decide))) ((f32 72 (by decide)).trans (f10 72 (by decide))) hI106
      have I62 : jI109 σ30 := jI109_fr ((f33 50 (by decide)).trans (congrFun (f10 55 (by decide)) 50)) hI109
      have I63 : jI110 σ30 := jI110_fr ((f32 86 (by decide)).trans (f10 86 (by decide))) ((f32 87 (by decide)).trans (f10 87 (by decide))) hI110
      have I64 : jI111 σ30 := jI111_fr ((f32 79 (by decide)).trans (f10 79 (by decide))) hI111
      have I65 : jI119 σ30 := jI119_fr ((f32 68 (by decide)).trans (f10 68 (by decide))) hI119
      have p66 : jKept σ30 := jKept.fr ((f32 75 (by decide)).trans (f10 75 (by decide))) ((f32 76 (by decide)).trans (f10 76 (by decide))) ((f32 77 (by decide)).trans (f10 77 (by decide))) hs_jKept
      have z67 : (σ30 38 0).toInt = (σ 38 0).toInt := (congrArg Int32.toInt (show σ30 38 0 = (σ 38 0) from ((congrFun (f32 38 (by decide)) 0).trans (congrFun (f10 38 (by decide)) 0))))
      have z68 : (σ30 55 32).toInt = (σ 55 32).toInt := (congrArg Int32.toInt (show σ30 55 32 = (σ 55 32) from ((f33 32 (by decide)).trans (congrFun (f10 55 (by decide)) 32))))
      have z69 : (σ30 38 1).toInt = (σ 38 1).toInt := (congrArg Int32.toInt (show σ30 38 1 = (σ 38 1) from ((congrFun (f32 38 (by decide)) 1).trans (congrFun (f10 38 (by decide)) 1))))
      have z70 : (σ30 55 55).toInt = (σ 55 55).toInt := (congrArg Int32.toInt (show σ30 55 55 = (σ 55 55) from ((f33 55 (by decide)).trans (congrFun (f10 55 (by decide)) 55))))
      exact ih x46 σ30 τ _ _ ls (by have h9 := tx46; omega) ⟨I47, I48, I49, I50, I51, I52, I53, I54, I55, I56, I57, I58, I59, I60, I34, I35, I61, I36, I62, I63, I64, I65, p66, p37, (by omega), (by omega), (show jKd (σ30 39) (σ30 70) (σ30 55 32).toInt by rw [show σ30 39 = σ 39 from ((f32 39 (by decide)).trans (f10 39 (by decide))), show σ30 70 = σ 70 from ((f32 70 (by decide)).trans (f10 70 (by decide))), show (σ30 55 32).toInt = (σ 55 32).toInt from by omega]; exact hr0), (show jTt (σ30 42) (σ30 85) (σ30 55 55).toInt by rw [show σ30 42 = σ 42 from ((f32 42 (by decide)).trans (f10 42 (by decide))), show σ30 85 = σ 85 from ((f32 85 (by decide)).trans (f10 85 (by decide))), show (σ30 55 55).toInt = (σ 55 55).toInt from by omega]; exact hr1)⟩ hP hS (lv_sub hl [0, 1, 2, 3] rfl)
    · obtain ⟨q73, k71, k72⟩ := h42
      refine lv_pop hx hb dL_law_390 rfl ?_
      refine lv_goto (tgt := 1357) hx hb dL_law_391 (by decide) ?_
      obtain ⟨x74, ex74⟩ : ∃ y : Int32, y = x0 + 6 := ⟨_, rfl⟩
      have tx74 : x74.toInt = x0.toInt + 6 := (jadd ex74 rfl jz_6 (by omega) (by omega)).trans (by omega)
      refine lv_iinc (v := x74) (lv' := [(3, .int x74), (2, .ref (ad 55)), (1, .ref (ad 0)), (0, .ref b)]) hx hb dL_law_1357 hl (k := 0) rfl (by rw [ex74]; rfl) (by decide) rfl (fun ls hl => ?_)
      refine lv_goto (tgt := 18) hx hb dL_law_1360 (by decide) ?_
      have I75 : jI2 σ30 := jI2_fr ((congrFun (f32 2 (by decide)) 0).trans (congrFun (f10 2 (by decide)) 0)) ((congrFun (f32 2 (by decide)) 1).trans (congrFun (f10 2 (by decide)) 1)) ((congrFun (f32 2 (by decide)) 2).trans (congrFun (f10 2 (by decide)) 2)) ((congrFun (f32 2 (by decide)) 3).trans (congrFun (f10 2 (by decide)) 3)) ((f32 6 (by decide)).trans (f10 6 (by decide))) hI2
      have I76 : jI9 σ30 := jI9_fr (congrFun (f32 9 (by decide)) 0) (f32 10 (by decide)) (f32 11 (by decide)) I14
      have I77 : jI12 σ30 := jI12_fr ((congrFun (f32 12 (by decide)) 0).trans (congrFun (f10 12 (by decide)) 0)) ((f32 13 (by decide)).trans (f10 13 (by decide))) hI12
      have I78 : jI16 σ30 := jI16_fr (congrFun (f32 16 (by decide)) 0) (congrFun (f32 16 (by decide)) 1) (congrFun (f32 16 (by decide)) 2) (f32 17 (by decide)) I15
      have I79 : jI18 σ30 := jI18_fr ((congrFun (f32 18 (by decide)) 0).trans (congrFun (f10 18 (by decide)) 0)) ((f32 19 (by decide)).trans (f10 19 (by decide))) hI18
      have I80 : jI22 σ30 := jI22_fr ((congrFun (f32 22 (by decide)) 0).trans (congrFun (f10 22 (by decide)) 0)) ((f32 23 (by decide)).trans (f10 23 (by decide))) hI22
      have I81 : jI31 σ30 := jI31_fr ((congrFun (f32 31 (by decide)) 8).trans (congrFun (f10 31 (by decide)) 8)) ((f32 33 (by decide)).trans (f10 33 (by decide))) ((f32 36 (by decide)).trans (f10 36 (by decide))) hI31
      have I82 : jI38 σ30 := jI38_fr ((congrFun (f32 38 (by decide)) 0).trans (congrFun (f10 38 (by decide)) 0)) ((congrFun (f32 38 (by decide)) 1).trans (congrFun (f10 38 (by decide)) 1)) ((f32 39 (by decide)).trans (f10 39 (by decide))) hI38
      have I83 : jI43 σ30 := jI43_fr ((congrFun (f32 43 (by decide)) 8).trans (congrFun (f10 43 (by decide)) 8)) hI43
      have I84 : jI47 σ30 := jI47_fr (congrFun (f32 47 (by decide)) 0) (f32 48 (by decide)) (f32 49 (by decide)) I16
      have I85 : jI50 σ30 := jI50_fr ((f32 52 (by decide)).trans (f10 52 (by decide))) hI50
      have I86 : jI101 σ30 := jI101_fr ((f33 4 (by decide)).trans (congrFun (f10 55 (by decide)) 4)) ((f33 5 (by decide)).trans (congrFun (f10 55 (by decide)) 5)) ((f32 56 (by decide)).trans (f10 56 (by decide))) ((f32 57 (by decide)).trans (f10 57 (by decide))) ((f32 58 (by decide)).trans (f10 58 (by decide))) ((f32 59 (by decide)).trans (f10 59 (by decide))) hI101
      have I87 : jI102 σ30 := jI102_fr ((f33 6 (by decide)).trans (congrFun (f10 55 (by decide)) 6)) ((f32 60 (by decide)).trans (f10 60 (by decide))) ((f32 61 (by decide)).trans (f10 61 (by decide))) hI102
      have I88 : jI103 σ30 := jI103_fr ((f33 9 (by decide)).trans (congrFun (f10 55 (by decide)) 9)) hI103
      have I89 : jI106 σ30 := jI106_fr ((f33 32 (by decide)).trans (congrFun (f10 55 (by decide)) 32)) ((f32 70 (by decide)).trans (f10 70 (by decide))) ((f32 71 (by decide)).trans (f10 71 (by decide))) ((f32 72 (by decide)).trans (f10 72 (by decide))) hI106
      have I90 : jI109 σ30 := jI109_fr ((f33 50 (by decide)).trans (congrFun (f10 55 (by decide)) 50)) hI109
      have I91 : jI110 σ30 := jI110_fr ((f32 86 (by decide)).trans (f10 86 (by decide))) ((f32 87 (by decide)).trans (f10 87 (by decide))) hI110
      have I92 : jI111 σ30 := jI111_fr ((f32 79 (by decide)).trans (f10 79 (by decide))) hI111
      have I93 : jI119 σ30 := jI119_fr ((f32 68 (by decide)).trans (f10 68 (by decide))) hI119
      have p94 : jKept σ30 := jKept.fr ((f32 75 (by decide)).trans (f10 75 (by decide))) ((f32 76 (by decide)).trans (f10 76 (by decide))) ((f32 77 (by decide)).trans (f10 77 (by decide))) hs_jKept
      have z95 : (σ30 38 0).toInt = (σ 38 0).toInt := (congrArg Int32.toInt (show σ30 38 0 = (σ 38 0) from ((congrFun (f32 38 (by decide)) 0).trans (congrFun (f10 38 (by decide)) 0))))
      have z96 : (σ30 55 32).toInt = (σ 55 32).toInt := (congrArg Int32.toInt (show σ30 55 32 = (σ 55 32) from ((f33 32 (by decide)).trans (congrFun (f10 55 (by decide)) 32))))
      have z97 : (σ30 38 1).toInt = (σ 38 1).toInt := (congrArg Int32.toInt (show σ30 38 1 = (σ 38 1) from ((congrFun (f32 38 (by decide)) 1).trans (congrFun (f10 38 (by decide)) 1))))
      have z98 : (σ30 55 55).toInt = (σ 55 55).toInt := (congrArg Int32.toInt (show σ30 55 55 = (σ 55 55) from ((f33 55 (by decide)).trans (congrFun (f10 55 (by decide)) 55))))
      exact ih x74 σ30 τ _ _ ls (by have h9 := tx74; omega) ⟨I75, I76, I77, I78, I79, I80, I81, I82, I83, I84, I85, I86, I87, I88, I34, I35, I89, I36, I90, I91, I92, I93, p94, p37, (by omega), (by omega), (show jKd (σ30 39) (σ30 70) (σ30 55 32).toInt by rw [show σ30 39 = σ 39 from ((f32 39 (by decide)).trans (f10 39 (by decide))), show σ30 70 = σ 70 from ((f32 70 (by decide)).trans (f10 70 (by decide))), show (σ30 55 32).toInt = (σ 55 32).toInt from by omega]; exact hr0), (show jTt (σ30 42) (σ30 85) (σ30 55 55).toInt by rw [show σ30 42 = σ 42 from ((f32 42 (by decide)).trans (f10 42 (by decide))), show σ30 85 = σ 85 from ((f32 85 (by decide)).trans (f10 85 (by decide))), show (σ30 55 55).toInt = (σ 55 55).toInt from by omega]; exact hr1)⟩ hP hS (lv_sub hl [0, 1, 2, 3] rfl)
  · obtain ⟨q101, k99, k100⟩ := h21
    refine lv_pop hx hb dL_law_385 rfl ?_
    refine lv_aload_n hx hb dL_law_386 rfl (lv_at hl 1 rfl) ?_
    have I102 : jI104 σ8 := jI104_fr (congrFun (f10 55 (by decide)) 10) (congrFun (f10 55 (by decide)) 12) (congrFun (f10 55 (by decide)) 13) (f10 62 (by decide)) (f10 67 (by decide)) hI104
    have I103 : jI105 σ8 := jI105_fr (congrFun (f10 55 (by decide)) 15) (f10 65 (by decide)) hI105
    have I104 : jI107 σ8 := jI107_fr (congrFun (f10 55 (by decide)) 12) (congrFun (f10 55 (by decide)) 47) (f10 80 (by decide)) hI107
    have p105 : jBook σ8 := jBook.fr (congrFun (f10 55 (by decide)) 47) (congrFun (f10 55 (by decide)) 10) (f10 81 (by decide)) hs_jBook
    have z106 : (σ8 55 47).toInt = (σ 55 47).toInt := (congrArg Int32.toInt (show σ8 55 47 = (σ 55 47) from (congrFun (f10 55 (by decide)) 47)))
    refine jcallV (As := []) (rest := []) ⟨hx, hb, hml, hown, hts⟩ hK hP hA hS hZ (c_X12_order l D cI cL ad zz hJ σ8 τ I102 I103 I104 p105) cw_RL_40 (jc_55 cI cL ad σ8 τ) rfl ⟨Nat.le_of_ble_eq_true rfl, Nat.le_of_ble_eq_true rfl⟩ rfl rfl rfl hl.1 rfl (Nat.le_of_ble_eq_true rfl) dL_law_387 ⟨Nat.le_of_ble_eq_true rfl, Nat.le_of_ble_eq_true rfl⟩ (fun r108 σ107 τ107 H locs h107 hP hS => ?_)
    obtain ⟨rfl, f109, f110, I111, I112, I113, p114, w115, h107⟩ := h107
    obtain ⟨k117, h107⟩ := h107
    rcases h107 with h118 | h119
    · obtain ⟨q122, k120, k121⟩ := h118
      refine lv_pop hx hb dL_law_390 rfl ?_
      refine lv_goto (tgt := 1357) hx hb dL_law_391 (by decide) ?_
      obtain ⟨x123, ex123⟩ : ∃ y : Int32, y = x0 + 6 := ⟨_, rfl⟩
      have tx123 : x123.toInt = x0.toInt + 6 := (jadd ex123 rfl jz_6 (by omega) (by omega)).trans (by omega)
      refine lv_iinc (v := x123) (lv' := [(3, .int x123), (2, .ref (ad 55)), (1, .ref (ad 0)), (0, .ref b)]) hx hb dL_law_1357 hl (k := 0) rfl (by rw [ex123]; rfl) (by decide) rfl (fun ls hl => ?_)
      refine lv_goto (tgt := 18) hx hb dL_law_1360 (by decide) ?_
      have I124 : jI2 σ107 := jI2_fr ((congrFun (f109 2 (by decide)) 0).trans (congrFun (f10 2 (by decide)) 0)) ((congrFun (f109 2 (by decide)) 1).trans (congrFun (f10 2 (by decide)) 1)) ((congrFun (f109 2 (by decide)) 2).trans (congrFun (f10 2 (by decide)) 2)) ((congrFun (f109 2 (by decide)) 3).trans (congrFun (f10 2 (by decide)) 3)) ((f109 6 (by decide)).trans (f10 6 (by decide))) hI2
      have I125 : jI9 σ107 := jI9_fr (congrFun (f109 9 (by decide)) 0) (f109 10 (by decide)) (f109 11 (by decide)) I14
      have I126 : jI12 σ107 := jI12_fr ((congrFun (f109 12 (by decide)) 0).trans (congrFun (f10 12 (by decide)) 0)) ((f109 13 (by decide)).trans (f10 13 (by decide))) hI12
      have I127 : jI16 σ107 := jI16_fr (congrFun (f109 16 (by decide)) 0) (congrFun (f109 16 (by decide)) 1) (congrFun (f109 16 (by decide)) 2) (f109 17 (by decide)) I15
      have I128 : jI18 σ107 := jI18_fr ((congrFun (f109 18 (by decide)) 0).trans (congrFun (f10 18 (by decide)) 0)) ((f109 19 (by decide)).trans (f10 19 (by decide))) hI18
      have I129 : jI22 σ107 := jI22_fr ((congrFun (f109 22 (by decide)) 0).trans (congrFun (f10 22 (by decide)) 0)) ((f109 23 (by decide)).trans (f10 23 (by decide))) hI22
      have I130 : jI31 σ107 := jI31_fr ((congrFun (f109 31 (by decide)) 8).trans (congrFun (f10 31 (by decide)) 8)) ((f109 33 (by decide)).trans (f10 33 (by decide))) ((f109 36 (by decide)).trans (f10 36 (by decide))) hI31
      have I131 : jI38 σ107 := jI38_fr ((congrFun (f109 38 (by decide)) 0).trans (congrFun (f10 38 (by decide)) 0)) ((congrFun (f109 38 (by decide)) 1).trans (congrFun (f10 38 (by decide)) 1)) ((f109 39 (by decide)).trans (f10 39 (by decide))) hI38
      have I132 : jI43 σ107 := jI43_fr ((congrFun (f109 43 (by decide)) 8).trans (congrFun (f10 43 (by decide)) 8)) hI43
      have I133 : jI47 σ107 := jI47_fr (congrFun (f109 47 (by decide)) 0) (f109 48 (by decide)) (f109 49 (by decide)) I16
      have I134 : jI50 σ107 := jI50_fr ((f109 52 (by decide)).trans (f10 52 (by decide))) hI50
      have I135 : jI101 σ107 := jI101_fr ((f110 4 (by decide)).trans (congrFun (f10 55 (by decide)) 4)) ((f110 5 (by decide)).trans (congrFun (f10 55 (by decide)) 5)) ((f109 56 (by decide)).trans (f10 56 (by decide))) ((f109 57 (by decide)).trans (f10 57 (by decide))) ((f109 58 (by decide)).trans (f10 58 (by decide))) ((f109 59 (by decide)).trans (f10 59 (by decide))) hI101
      have I136 : jI102 σ107 := jI102_fr ((f110 6 (by decide)).trans (congrFun (f10 55 (by decide)) 6)) ((f109 60 (by decide)).trans (f10 60 (by decide))) ((f109 61 (by decide)).trans (f10 61 (by decide))) hI102
      have I137 : jI103 σ107 := jI103_fr ((f110 9 (by decide)).trans (congrFun (f10 55 (by decide)) 9)) hI103
      have I138 : jI106 σ107 := jI106_fr ((f110 32 (by decide)).trans (congrFun (f10 55 (by decide)) 32)) ((f109 70 (by decide)).trans (f10 70 (by decide))) ((f109 71 (by decide)).trans (f10 71 (by decide))) ((f109 72 (by decide)).trans (f10 72 (by decide))) hI106
      have I139 : jI109 σ107 := jI109_fr ((f110 50 (by decide)).trans (congrFun (f10 55 (by decide)) 50)) hI109
      have I140 : jI110 σ107 := jI110_fr ((f109 86 (by decide)).trans (f10 86 (by decide))) ((f109 87 (by decide)).trans (f10 87 (by decide))) hI110
      have I141 : jI111 σ107 := jI111_fr ((f109 79 (by decide)).trans (f10 79 (by decide))) hI111
      have I142 : jI119 σ107 := jI119_fr ((f109 68 (by decide)).trans (f10 68 (by decide))) hI119
      have p143 : jKept σ107 := jKept.fr ((f109 75 (by decide)).trans (f10 75 (by decide))) ((f109 76 (by decide)).trans (f10 76 (by decide))) ((f109 77 (by decide)).trans (f10 77 (by decide))) hs_jKept
      have z144 : (σ107 38 0).toInt = (σ 38 0).toInt := (congrArg Int32.toInt (show σ107 38 0 = (σ 38 0) from ((congrFun (f109 38 (by decide)) 0).trans (congrFun (f10 38 (by decide)) 0))))
      have z145 : (σ107 55 32).toInt = (σ 55 32).toInt := (congrArg Int32.toInt (show σ107 55 32 = (σ 55 32) from ((f110 32 (by decide)).trans (congrFun (f10 55 (by decide)) 32))))
      have z146 : (σ107 38 1).toInt = (σ 38 1).toInt := (congrArg Int32.toInt (show σ107 38 1 = (σ 38 1) from ((congrFun (f109 38 (by decide)) 1).trans (congrFun (f10 38 (by decide)) 1))))
      have z147 : (σ107 55 55).toInt = (σ 55 55).toInt := (congrArg Int32.toInt (show σ107 55 55 = (σ 55 55) from ((f110 55 (by decide)).trans (congrFun (f10 55 (by decide)) 55))))
      exact ih x123 σ107 τ _ _ ls (by have h9 := tx123; omega) ⟨I124, I125, I126, I127, I128, I129, I130, I131, I132, I133, I134, I135, I136, I137, I111, I112, I138, I113, I139, I140, I141, I142, p143, p114, (by omega), (by omega), (show jKd (σ107 39) (σ107 70) (σ107 55 32).toInt by rw [show σ107 39 = σ 39 from ((f109 39 (by decide)).trans (f10 39 (by decide))), show σ107 70 = σ 70 from ((f109 70 (by decide)).trans (f10 70 (by decide))), show (σ107 55 32).toInt = (σ 55 32).toInt from by omega]; exact hr0), (show jTt (σ107 42) (σ107 85) (σ107 55 55).toInt by rw [show σ107 42 = σ 42 from ((f109 42 (by decide)).trans (f10 42 (by decide))), show σ107 85 = σ 85 from ((f109 85 (by decide)).trans (f10 85 (by decide))), show (σ107 55 55).toInt = (σ 55 55).toInt from by omega]; exact hr1)⟩ hP hS (lv_sub hl [0, 1, 2, 3] rfl)
    · obtain ⟨q150, k148, k149⟩ := h119
      refine lv_pop hx hb dL_law_390 rfl ?_
      refine lv_goto (tgt := 1357) hx hb dL_law_391 (by decide) ?_
      obtain ⟨x151, ex151⟩ : ∃ y : Int32, y = x0 + 6 := ⟨_, rfl⟩
      have tx151 : x151.toInt = x0.toInt + 6 := (jadd ex151 rfl jz_6 (by omega) (by omega)).trans (by omega)
      refine lv_iinc (v := x151) (lv' := [(3, .int x151), (2, .ref (ad 55)), (1, .ref (ad 0)), (0, .ref b)]) hx hb dL_law_1357 hl (k := 0) rfl (by rw [ex151]; rfl) (by decide) rfl (fun ls hl => ?_)
      refine lv_goto (tgt := 18) hx hb dL_law_1360 (by decide) ?_
      have I152 : jI2 σ107 := jI2_fr ((congrFun (f109 2 (by decide)) 0).trans (congrFun (f10 2 (by decide)) 0)) ((congrFun (f109 2 (by decide)) 1).trans (congrFun (f10 2 (by decide)) 1)) ((congrFun (f109 2 (by decide)) 2).trans (congrFun (f10 2 (by decide)) 2)) ((congrFun (f109 2 (by decide)) 3).trans (congrFun (f10 2 (by decide)) 3)) ((f109 6 (by decide)).trans (f10 6 (by decide))) hI2
      have I153 : jI9 σ107 := jI9_fr (congrFun (f109 9 (by decide)) 0) (f109 10 (by decide)) (f109 11 (by decide)) I14
      have I154 : jI12 σ107 := jI12_fr ((congrFun (f109 12 (by decide)) 0).trans (congrFun (f10 12 (by decide)) 0)) ((f109 13 (by decide)).trans (f10 13 (by decide))) hI12
      have I155 : jI16 σ107 := jI16_fr (congrFun (f109 16 (by decide)) 0) (congrFun (f109 16 (by decide)) 1) (congrFun (f109 16 (by decide)) 2) (f109 17 (by decide)) I15
      have I156 : jI18 σ107 := jI18_fr ((congrFun (f109 18 (by decide)) 0).trans (congrFun (f10 18 (by decide)) 0)) ((f109 19 (by decide)).trans (f10 19 (by decide))) hI18
      have I157 : jI22 σ107 := jI22_fr ((congrFun (f109 22 (by decide)) 0).trans (congrFun (f10 22 (by decide)) 0)) ((f109 23 (by decide)).trans (f10 23 (by decide))) hI22
      have I158 : jI31 σ107 := jI31_fr ((congrFun (f109 31 (by decide)) 8).trans (congrFun (f10 31 (by decide)) 8)) ((f109 33 (by decide)).trans (f10 33 (by decide))) ((f109 36 (by decide)).trans (f10 36 (by decide))) hI31
      have I159 : jI38 σ107 := jI38_fr ((congrFun (f109 38 (by decide)) 0).trans (congrFun (f10 38 (by decide)) 0)) ((congrFun (f109 38 (by decide)) 1).trans (congrFun (f10 38 (by decide)) 1)) ((f109 39 (by decide)).trans (f10 39 (by decide))) hI38
      have I160 : jI43 σ107 := jI43_fr ((congrFun (f109 43 (by decide)) 8).trans (congrFun (f10 43 (by decide)) 8)) hI43
      have I161 : jI47 σ107 := jI47_fr (congrFun (f109 47 (by decide)) 0) (f109 48 (by decide)) (f109 49 (by decide)) I16
      have I162 : jI50 σ107 := jI50_fr ((f109 52 (by decide)).trans (f10 52 (by decide))) hI50
      have I163 : jI101 σ107 := jI101_fr ((f110 4 (by decide)).trans (congrFun (f10 55 (by decide)) 4)) ((f110 5 (by decide)).trans (congrFun (f10 55 (by decide)) 5)) ((f109 56 (by decide)).trans (f10 56 (by decide))) ((f109 57 (by decide)).trans (f10 57 (by decide))) ((f109 58 (by decide)).trans (f10 58 (by decide))) ((f109 59 (by decide)).trans (f10 59 (by decide))) hI101
      have I164 : jI102 σ107 := jI102_fr ((f110 6 (by decide)).trans (congrFun (f10 55 (by decide)) 6)) ((f109 60 (by decide)).trans (f10 60 (by decide))) ((f109 61 (by decide)).trans (f10 61 (by decide))) hI102
      have I165 : jI103 σ107 := jI103_fr ((f110 9 (by decide)).trans (congrFun (f10 55 (by decide)) 9)) hI103
      have I166 : jI106 σ107 := jI106_fr ((f110 32 (by decide)).trans (congrFun (f10 55 (by decide)) 32)) ((f109 70 (by decide)).trans (f10 70 (by decide))) ((f109 71 (by decide)).trans (f10 71 (by decide))) ((f109 72 (by decide)).trans (f10 72 (by decide))) hI106
      have I167 : jI109 σ107 := jI109_fr ((f110 50 (by decide)).trans (congrFun (f10 55 (by decide)) 50)) hI109
      have I168 : jI110 σ107 := jI110_fr ((f109 86 (by decide)).trans (f10 86 (by decide))) ((f109 87 (by decide)).trans (f10 87 (by decide))) hI110
      have I169 : jI111 σ107 := jI111_fr ((f109 79 (by decide)).trans (f10 79 (by decide))) hI111
      have I170 : jI119 σ107 := jI119_fr ((f109 68 (by decide)).trans (f10 68 (by decide))) hI119
      have p171 : jKept σ107 := jKept.fr ((f109 75 (by decide)).trans (f10 75 (by decide))) ((f109 76 (by decide)).trans (f10 76 (by decide))) ((f109 77 (by decide)).trans (f10 77 (by decide))) hs_jKept
      have z172 : (σ107 38 0).toInt = (σ 38 0).toInt := (congrArg Int32.toInt (show σ107 38 0 = (σ 38 0) from ((congrFun (f109 38 (by decide)) 0).trans (congrFun (f10 38 (by decide)) 0))))
      have z173 : (σ107 55 32).toInt = (σ 55 32).toInt := (congrArg Int32.toInt (show σ107 55 32 = (σ 55 32) from ((f110 32 (by decide)).trans (congrFun (f10 55 (by decide)) 32))))
      have z174 : (σ107 38 1).toInt = (σ 38 1).toInt := (congrArg Int32.toInt (show σ107 38 1 = (σ 38 1) from ((congrFun (f109 38 (by decide)) 1).trans (congrFun (f10 38 (by decide)) 1))))
      have z175 : (σ107 55 55).toInt = (σ 55 55).toInt := (congrArg Int32.toInt (show σ107 55 55 = (σ 55 55) from ((f110 55 (by decide)).trans (congrFun (f10 55 (by decide)) 55))))
      exact ih x151 σ107 τ _ _ ls (by have h9 := tx151; omega) ⟨I152, I153, I154, I155, I156, I157, I158, I159, I160, I161, I162, I163, I164, I165, I111, I112, I166, I113, I167, I168, I169, I170, p171, p114, (by omega), (by omega), (show jKd (σ107 39) (σ107 70) (σ107 55 32).toInt by rw [show σ107 39 = σ 39 from ((f109 39 (by decide)).trans (f10 39 (by decide))), show σ107 70 = σ 70 from ((f109 70 (by decide)).trans (f10 70 (by decide))), show (σ107 55 32).toInt = (σ 55 32).toInt from by omega]; exact hr0), (show jTt (σ107 42) (σ107 85) (σ107 55 55).toInt by rw [show σ107 42 = σ 42 from ((f109 42 (by decide)).trans (f10 42 (by decide))), show σ107 85 = σ 85 from ((f109 85 (by decide)).trans (f10 85 (by decide))), show (σ107 55 55).toInt = (σ 55 55).toInt from by omega]; exact hr1)⟩ hP hS (lv_sub hl [0, 1, 2, 3] rfl)
set_option maxHeartbeats 4000000 in
set_option maxRecDepth 100000 in
theorem law_case_6 {p : Program} {e : Env} {s : State} {m : MethodId} {below : List Frame} {meth : Method} {c : Code} (l : Launch) {b L : Nat} {xs : Nat → Int32} {D : va_G} {cI cL : ClassId} {ad zz : Nat → Nat} (C0 : lw_At p s m meth c b L xs) (hJ : jD ad) (hA : ∀ q, jA ad q → s.heap.size ≤ q) (hK : jK D cI cL s) (hZ : jZ zz (fun q : Nat => s.heap.size ≤ q) s s.heap) {x0 : Int32} (hx0 : 0 ≤ x0.toInt) (hxL : x0.toInt + 6 ≤ (L : Int)) (hL : L ≤ 384) {σ : Nat → Nat → Int32} {τ : Nat → Nat → Int64} {H : Heap} {locs : List Loc} (hS : va_S (fun q : Nat => s.heap.size ≤ q) s.heap H locs) {ls : Array Slot} (hAll : jAll σ τ) (hP : jH D cI cL ad σ τ H) (hl : lv_has ls 4 [(3, .int x0), (2, .ref (ad 55)), (1, .ref (ad 0)), (0, .ref b)]) (ih : ∀ (x1 : Int32) (σ : Nat → Nat → Int32) (τ : Nat → Nat → Int64) (H : Heap) (locs : List Loc) (ls : Array Slot), x1.toInt = x0.toInt + 6 → jAll σ τ → jH D cI cL ad σ τ H → va_S (fun q : Nat => s.heap.size ≤ q) s.heap H locs → lv_has ls 4 [(3, .int x1), (2, .ref (ad 55)), (1, .ref (ad 0)), (0, .ref b)] → W p l e room_1 s m #[Value.ref b] below meth c H locs 90 348600 (lw_Z below #[Value.ref b] s) (F0 m 18 ls [])) : W p l e room_1 s m #[Value.ref b] below meth c H locs 90 348600 (lw_Z below #[Value.ref b] s) (F0 m 394 ls []) := by
  obtain ⟨hx, hb, hr, hml, hown, hts0, hX, hbl, hlocks, hgv⟩ := C0
  have hts : ∀ w ∈ wsL_law, w.before #[Value.ref b] s = true := fun w h => hts0 w (wsL_law_in w h)
  have hbA : ¬ (fun q : Nat => s.heap.size ≤ q) b := Nat.not_le.mpr hbl
  have hown : s.vm.findClass RL = some m.cls := hown
  obtain ⟨hI2, hI9, hI12, hI16, hI18, hI22, hI31, hI38, hI43, hI47, hI50, hI101, hI102, hI103, hI104, hI105, hI106, hI107, hI109, hI110, hI111, hI119, hs_jKept, hs_jBook, ht0, ht1, hr0, hr1⟩ := hAll
  have hL9 : (L : Int) ≤ 384 := by omega
  obtain ⟨i1, i2, w3⟩ : (0 ≤ (σ 38 0).toInt ∧ (σ 38 0).toInt ≤ 20) ∧ (0 ≤ (σ 38 1).toInt ∧ (σ 38 1).toInt ≤ 1000) ∧ (∀ k : Nat, k < 20 → 0 ≤ (σ 39 k).toInt ∧ (σ 39 k).toInt ≤ 6) := id hI38
  obtain ⟨i4, w5, w6, w7⟩ : (0 ≤ (σ 55 32).toInt ∧ (σ 55 32).toInt ≤ 20) ∧ (∀ k : Nat, k < 20 → 0 ≤ (σ 70 k).toInt ∧ (σ 70 k).toInt ≤ 6) ∧ (∀ k : Nat, k < 20 → 0 ≤ (σ 71 k).toInt ∧ (σ 71 k).toInt ≤ 8) ∧ (∀ k : Nat, k < 160 → 0 ≤ (σ 72 k).toInt ∧ (σ 72 k).toInt ≤ 3) := id hI106
  refine lv_aload_n hx hb dL_law_394 rfl (lv_at hl 2 rfl) ?_
  refine lv_aload_n hx hb dL_law_395 rfl (lv_at hl 3 rfl) ?_
  refine lv_iload_n hx hb dL_law_396 rfl (lv_at hl 0 rfl) ?_
  refine lv_iconst (v := 1) hx hb dL_law_397 (by decide) ?_
  have g8 := jrg (rfl : x0.toInt = x0.toInt)
  refine lv_iadd hx hb dL_law_398 ?_
  refine lv_topi (fun x9 ex9 => ?_)
  have tx9 : x9.toInt = x0.toInt + 1 := (jadd ex9 rfl jz_1 (by omega) (by omega)).trans (by omega)
  refine va_sld hx hb hX hbl hbA hS (jin tx9 (by omega) (by omega)) dL_law_399 ?_
  have g10 := jrg (rfl : (xs x9.toNatClampNeg).toInt = (xs x9.toNatClampNeg).toInt)
  refine jcallV (As := [.int (xs x9.toNatClampNeg)]) (rest := []) ⟨hx, hb, hml, hown, hts⟩ hK hP hA hS hZ (c_X11_text l D cI cL ad zz hJ σ τ (xs x9.toNatClampNeg) ((xs x9.toNatClampNeg).toInt) rfl hI9 hI12 hI18 hI22) cw_RL_41 (jc_0 cI cL ad σ τ) rfl ⟨Nat.le_of_ble_eq_true rfl, Nat.le_of_ble_eq_true rfl⟩ rfl rfl rfl hl.1 rfl (Nat.le_of_ble_eq_true rfl) dL_law_400 ⟨Nat.le_of_ble_eq_true rfl, Nat.le_of_ble_eq_true rfl⟩ (fun r12 σ11 τ11 H locs h11 hP hS => ?_)
  obtain ⟨rfl, f13, f14, f15, f16, f17, f18, I19, I20, I21, I22, h11⟩ := h11
  obtain ⟨k24, h11⟩ := h11
  refine lv_pop hx hb dL_law_403 rfl ?_
  refine lv_aload_n hx hb dL_law_404 rfl (lv_at hl 1 rfl) ?_
  refine lv_aload_n hx hb dL_law_405 rfl (lv_at hl 3 rfl) ?_
  refine lv_iload_n hx hb dL_law_406 rfl (lv_at hl 0 rfl) ?_
  refine lv_iconst (v := 1) hx hb dL_law_407 (by decide) ?_
  refine lv_iadd hx hb dL_law_408 ?_
  refine jtopr ex9.symm ?_
  refine va_sld hx hb hX hbl hbA hS (jin tx9 (by omega) (by omega)) dL_law_409 ?_
  have I25 : jI105 σ11 := jI105_fr (congrFun (f13 55 (by decide)) 15) (f13 65 (by decide)) hI105
  have z26 : (σ11 55 15).toInt = (σ 55 15).toInt := (congrArg Int32.toInt (show σ11 55 15 = (σ 55 15) from (congrFun (f13 55 (by decide)) 15)))
  refine jcallV (As := [.int (xs x9.toNatClampNeg)]) (rest := []) ⟨hx, hb, hml, hown, hts⟩ hK hP hA hS hZ (c_X12_text l D cI cL ad zz hJ σ11 τ (xs x9.toNatClampNeg) ((xs x9.toNatClampNeg).toInt) rfl I25) cw_RL_44 (jc_55 cI cL ad σ11 τ) rfl ⟨Nat.le_of_ble_eq_true rfl, Nat.le_of_ble_eq_true rfl⟩ rfl rfl rfl hl.1 rfl (Nat.le_of_ble_eq_true rfl) dL_law_410 ⟨Nat.le_of_ble_eq_true rfl, Nat.le_of_ble_eq_true rfl⟩ (fun r28 σ27 τ27 H locs h27 hP hS => ?_)
  obtain ⟨rfl, f29, f30, I31, h27⟩ := h27
  obtain ⟨k33, h27⟩ := h27
  refine lv_pop hx hb dL_law_413 rfl ?_
  refine lv_goto (tgt := 1357) hx hb dL_law_414 (by decide) ?_
  obtain ⟨x34, ex34⟩ : ∃ y : Int32, y = x0 + 6 := ⟨_, rfl⟩
  have tx34 : x34.toInt = x0.toInt + 6 := (jadd ex34 rfl jz_6 (by omega) (by omega)).trans (by omega)
  refine lv_iinc (v := x34) (lv' := [(3, .int x34), (2, .ref (ad 55)), (1, .ref (ad 0)), (0, .ref b)]) hx hb dL_law_1357 hl (k := 0) rfl (by rw [ex34]; rfl) (by decide) rfl (fun ls hl => ?_)
  refine lv_goto (tgt := 18) hx hb dL_law_1360 (by decide) ?_
  have I35 : jI2 σ27 := jI2_fr ((congrFun (f29 2 (by decide)) 0).trans (congrFun (f13 2 (by decide)) 0)) ((congrFun (f29 2 (by decide)) 1).trans (congrFun (f13 2 (by decide)) 1)) ((congrFun (f29 2 (by decide)) 2).trans (congrFun (f13 2 (by decide)) 2)) ((congrFun (f29 2 (by decide)) 3).trans (congrFun (f13 2 (by decide)) 3)) ((f29 6 (by decide)).trans (f13 6 (by decide))) hI2
  have I36 : jI9 σ27 := jI9_fr (congrFun (f29 9 (by decide)) 0) (f29 10 (by decide)) (f29 11 (by decide)) I19
  have I37 : jI12 σ27 := jI12_fr (congrFun (f29 12 (by decide)) 0) (f29 13 (by decide)) I20
  have I38 : jI16 σ27 := jI16_fr ((congrFun (f29 16 (by decide)) 0).trans (congrFun (f13 16 (by decide)) 0)) ((congrFun (f29 16 (by decide)) 1).trans (congrFun (f13 16 (by decide)) 1)) ((congrFun (f29 16 (by decide)) 2).trans (congrFun (f13 16 (by decide)) 2)) ((f29 17 (by decide)).trans (f13 17 (by decide))) hI16
  have I39 : jI18 σ27 := jI18_fr (congrFun (f29 18 (by decide)) 0) (f29 19 (by decide)) I21
  have I40 : jI22 σ27 := jI22_fr (congrFun (f29 22 (by decide)) 0) (f29 23 (by decide)) I22
  have I41 : jI31 σ27 := jI31_fr ((congrFun (f29 31 (by decide)) 8).trans (congrFun (f13 31 (by decide)) 8)) ((f29 33 (by decide)).trans (f13 33 (by decide))) ((f29 36 (by decide)).trans (f13 36 (by decide))) hI31
  have I42 : jI38 σ27 := jI38_fr ((congrFun (f29 38 (by decide)) 0).trans (congrFun (f13 38 (by decide)) 0)) ((congrFun (f29 38 (by decide)) 1).trans (congrFun (f13 38 (by decide)) 1)) ((f29 39 (by decide)).trans (f13 39 (by decide))) hI38
  have I43 : jI43 σ27 := jI43_fr ((congrFun (f29 43 (by decide)) 8).trans (congrFun (f13 43 (by decide)) 8)) hI43
  have I44 : jI47 σ27 := jI47_fr ((congrFun (f29 47 (by decide)) 0).trans (congrFun (f13 47 (by decide)) 0)) ((f29 48 (by decide)).trans (f13 48 (by decide))) ((f29 49 (by decide)).trans (f13 49 (by decide))) hI47
  have I45 : jI50 σ27 := jI50_fr ((f29 52 (by decide)).trans (f13 52 (by decide))) hI50
  have I46 : jI101 σ27 := jI101_fr ((f30 4 (by decide)).trans (congrFun (f13 55 (by decide)) 4)) ((f30 5 (by decide)).trans (congrFun (f13 55 (by decide)) 5)) ((f29 56 (by decide)).trans (f13 56 (by decide))) ((f29 57 (by decide)).trans (f13 57 (by decide))) ((f29 58 (by decide)).trans (f13 58 (by decide))) ((f29 59 (by decide)).trans (f13 59 (by decide))) hI101
  have I47 : jI102 σ27 := jI102_fr ((f30 6 (by decide)).trans (congrFun (f13 55 (by decide)) 6)) ((f29 60 (by decide)).trans (f13 60 (by decide))) ((f29 61 (by decide)).trans (f13 61 (by decide))) hI102
  have I48 : jI103 σ27 := jI103_fr ((f30 9 (by decide)).trans (congrFun (f13 55 (by decide)) 9)) hI103
  have I49 : jI104 σ27 := jI104_fr ((f30 10 (by decide)).trans (congrFun (f13 55 (by decide)) 10)) ((f30 12 (by decide)).trans (congrFun (f13 55 (by decide)) 12)) ((f30 13 (by decide)).trans (congrFun (f13 55 (by decide)) 13)) ((f29 62 (by decide)).trans (f13 62 (by decide))) ((f29 67 (by decide)).trans (f13 67 (by decide))) hI104
  have I50 : jI106 σ27 := jI106_fr ((f30 32 (by decide)).trans (congrFun (f13 55 (by decide)) 32)) ((f29 70 (by decide)).trans (f13 70 (by decide))) ((f29 71 (by decide)).trans (f13 71 (by decide))) ((f29 72 (by decide)).trans (f13 72 (by decide))) hI106
  have I51 : jI107 σ27 := jI107_fr ((f30 12 (by decide)).trans (congrFun (f13 55 (by decide)) 12)) ((f30 47 (by decide)).trans (congrFun (f13 55 (by decide)) 47)) ((f29 80 (by decide)).trans (f13 80 (by decide))) hI107
  have I52 : jI109 σ27 := jI109_fr ((f30 50 (by decide)).trans (congrFun (f13 55 (by decide)) 50)) hI109
  have I53 : jI110 σ27 := jI110_fr ((f29 86 (by decide)).trans (f13 86 (by decide))) ((f29 87 (by decide)).trans (f13 87 (by decide))) hI110
  have I54 : jI111 σ27 := jI111_fr ((f29 79 (by decide)).trans (f13 79 (by decide))) hI111
  have I55 : jI119 σ27 := jI119_fr ((f29 68 (by decide)).trans (f13 68 (by decide))) hI119
  have p56 : jKept σ27 := jKept.fr ((f29 75 (by decide)).trans (f13 75 (by decide))) ((f29 76 (by decide)).trans (f13 76 (by decide))) ((f29 77 (by decide)).trans (f13 77 (by decide))) hs_jKept
  have p57 : jBook σ27 := jBook.fr ((f30 47 (by decide)).trans (congrFun (f13 55 (by decide)) 47)) ((f30 10 (by decide)).trans (congrFun (f13 55 (by decide)) 10)) ((f29 81 (by decide)).trans (f13 81 (by decide))) hs_jBook
  have z58 : (σ27 38 0).toInt = (σ 38 0).toInt := (congrArg Int32.toInt (show σ27 38 0 = (σ 38 0) from ((congrFun (f29 38 (by decide)) 0).trans (congrFun (f13 38 (by decide)) 0))))
  have z59 : (σ27 55 32).toInt = (σ 55 32).toInt := (congrArg Int32.toInt (show σ27 55 32 = (σ 55 32) from ((f30 32 (by decide)).trans (congrFun (f13 55 (by decide)) 32))))
  have z60 : (σ27 38 1).toInt = (σ 38 1).toInt := (congrArg Int32.toInt (show σ27 38 1 = (σ 38 1) from ((congrFun (f29 38 (by decide)) 1).trans (congrFun (f13 38 (by decide)) 1))))
  have z61 : (σ27 55 55).toInt = (σ 55 55).toInt := (congrArg Int32.toInt (show σ27 55 55 = (σ 55 55) from ((f30 55 (by decide)).trans (congrFun (f13 55 (by decide)) 55))))
  exact ih x34 σ27 τ _ _ ls (by have h9 := tx34; omega) ⟨I35, I36, I37, I38, I39, I40, I41, I42, I43, I44, I45, I46, I47, I48, I49, I31, I50, I51, I52, I53, I54, I55, p56, p57, (by omega), (by omega), (show jKd (σ27 39) (σ27 70) (σ27 55 32).toInt by rw [show σ27 39 = σ 39 from ((f29 39 (by decide)).trans (f13 39 (by decide))), show σ27 70 = σ 70 from ((f29 70 (by decide)).trans (f13 70 (by decide))), show (σ27 55 32).toInt = (σ 55 32).toInt from by omega]; exact hr0), (show jTt (σ27 42) (σ27 85) (σ27 55 55).toInt by rw [show σ27 42 = σ 42 from ((f29 42 (by decide)).trans (f13 42 (by decide))), show σ27 85 = σ 85 from ((f29 85 (by decide)).trans (f13 85 (by decide))), show (σ27 55 55).toInt = (σ 55 55).toInt from by omega]; exact hr1)⟩ hP hS (lv_sub hl [0, 1, 2, 3] rfl)
set_option maxHeartbeats 4000000 in
set_option maxRecDepth 100000 in
theorem law_case_7 {p : Program} {e : Env} {s : State} {m : MethodId} {below : List Frame} {meth : Method} {c : Code} (l : Launch) {b L : Nat} {xs : Nat → Int32} {D : va_G} {cI cL : ClassId} {ad zz : Nat → Nat} (C0 : lw_At p s m meth c b L xs) (hJ : jD ad) (hA : ∀ q, jA ad q → s.heap.size ≤ q) (hK : jK D cI cL s) (hZ : jZ zz (fun q : Nat => s.heap.size ≤ q) s s.heap) {x0 : Int32} (hx0 : 0 ≤ x0.toInt) (hxL : x0.toInt + 6 ≤ (L : Int)) (hL : L ≤ 384) {σ : Nat → Nat → Int32} {τ : Nat → Nat → Int64} {H : Heap} {locs : List Loc} (hS : va_S (fun q : Nat => s.heap.size ≤ q) s.heap H locs) {ls : Array Slot} (hAll : jAll σ τ) (hP : jH D cI cL ad σ τ H) (hl : lv_has ls 4 [(3, .int x0), (2, .ref (ad 55)), (1, .ref (ad 0)), (0, .ref b)]) (ih : ∀ (x1 : Int32) (σ : Nat → Nat → Int32) (τ : Nat → Nat → Int64) (H : Heap) (locs : List Loc) (ls : Array Slot), x1.toInt = x0.toInt + 6 → jAll σ τ → jH D cI cL ad σ τ H → va_S (fun q : Nat => s.heap.size ≤ q) s.heap H locs → lv_has ls 4 [(3, .int x1), (2, .ref (ad 55)), (1, .ref (ad 0)), (0, .ref b)] → W p l e room_1 s m #[Value.ref b] below meth c H locs 90 348600 (lw_Z below #[Value.ref b] s) (F0 m 18 ls [])) : W p l e room_1 s m #[Value.ref b] below meth c H locs 90 348600 (lw_Z below #[Value.ref b] s) (F0 m 417 ls []) := by
  obtain ⟨hx, hb, hr, hml, hown, hts0, hX, hbl, hlocks, hgv⟩ := C0
  have hts : ∀ w ∈ wsL_law, w.before #[Value.ref b] s = true := fun w h => hts0 w (wsL_law_in w h)
  have hbA : ¬ (fun q : Nat => s.heap.size ≤ q) b := Nat.not_le.mpr hbl
  have hown : s.vm.findClass RL = some m.cls := hown
  obtain ⟨hI2, hI9, hI12, hI16, hI18, hI22, hI31, hI38, hI43, hI47, hI50, hI101, hI102, hI103, hI104, hI105, hI106, hI107, hI109, hI110, hI111, hI119, hs_jKept, hs_jBook, ht0, ht1, hr0, hr1⟩ := hAll
  have hL9 : (L : Int) ≤ 384 := by omega
  obtain ⟨i1, i2, w3⟩ : (0 ≤ (σ 38 0).toInt ∧ (σ 38 0).toInt ≤ 20) ∧ (0 ≤ (σ 38 1).toInt ∧ (σ 38 1).toInt ≤ 1000) ∧ (∀ k : Nat, k < 20 → 0 ≤ (σ 39 k).toInt ∧ (σ 39 k).toInt ≤ 6) := id hI38
  obtain ⟨i4, w5, w6, w7⟩ : (0 ≤ (σ 55 32).toInt ∧ (σ 55 32).toInt ≤ 20) ∧ (∀ k : Nat, k < 20 → 0 ≤ (σ 70 k).toInt ∧ (σ 70 k).toInt ≤ 6) ∧ (∀ k : Nat, k < 20 → 0 ≤ (σ 71 k).toInt ∧ (σ 71 k).toInt ≤ 8) ∧ (∀ k : Nat, k < 160 → 0 ≤ (σ 72 k).toInt ∧ (σ 72 k).toInt ≤ 3) := id hI106
  refine lv_aload_n hx hb dL_law_417 rfl (lv_at hl 2 rfl) ?_
  refine lv_aload_n hx hb dL_law_418 rfl (lv_at hl 3 rfl) ?_
  refine lv_iload_n hx hb dL_law_419 rfl (lv_at hl 0 rfl) ?_
  refine lv_iconst (v := 1) hx hb dL_law_420 (by decide) ?_
  have g8 := jrg (rfl : x0.toInt = x0.toInt)
  refine lv_iadd hx hb dL_law_421 ?_
  refine lv_topi (fun x9 ex9 => ?_)
  have tx9 : x9.toInt = x0.toInt + 1 := (jadd ex9 rfl jz_1 (by omega) (by omega)).trans (by omega)
  refine va_sld hx hb hX hbl hbA hS (jin tx9 (by omega) (by omega)) dL_law_422 ?_
  have g10 := jrg (rfl : (xs x9.toNatClampNeg).toInt = (xs x9.toNatClampNeg).toInt)
  refine jcallV (As := [.int (xs x9.toNatClampNeg)]) (rest := []) ⟨hx, hb, hml, hown, hts⟩ hK hP hA hS hZ (c_X11_of l D cI cL ad zz hJ σ τ (xs x9.toNatClampNeg) ((xs x9.toNatClampNeg).toInt) rfl hI16) cw_RL_45 (jc_0 cI cL ad σ τ) rfl ⟨Nat.le_of_ble_eq_true rfl, Nat.le_of_ble_eq_true rfl⟩ rfl rfl rfl hl.1 rfl (Nat.le_of_ble_eq_true rfl) dL_law_423 ⟨Nat.le_of_ble_eq_true rfl, Nat.le_of_ble_eq_true rfl⟩ (fun r12 σ11 τ11 H locs h11 hP hS => ?_)
  obtain ⟨⟨rfl, rfl⟩, h11⟩ := h11
  rcases h11 with h13 | h14 | h15 | h16 | h17
  · obtain ⟨q20, k18, k19⟩ := h13
    refine lv_pop hx hb dL_law_426 rfl ?_
    refine lv_aload_n hx hb dL_law_427 rfl (lv_at hl 1 rfl) ?_
    refine lv_aload_n hx hb dL_law_428 rfl (lv_at hl 3 rfl) ?_
    refine lv_iload_n hx hb dL_law_429 rfl (lv_at hl 0 rfl) ?_
    refine lv_iconst (v := 1) hx hb dL_law_430 (by decide) ?_
    refine lv_iadd hx hb dL_law_431 ?_
    refine jtopr ex9.symm ?_
    refine va_sld hx hb hX hbl hbA hS (jin tx9 (by omega) (by omega)) dL_law_432 ?_
    refine jcallV (As := [.int (xs x9.toNatClampNeg)]) (rest := []) ⟨hx, hb, hml, hown, hts⟩ hK hP hA hS hZ (c_X12_of l D cI cL ad zz hJ σ τ (xs x9.toNatClampNeg) ((xs x9.toNatClampNeg).toInt) rfl hI104 hI107) cw_RL_48 (jc_55 cI cL ad σ τ) rfl ⟨Nat.le_of_ble_eq_true rfl, Nat.le_of_ble_eq_true rfl⟩ rfl rfl rfl hl.1 rfl (Nat.le_of_ble_eq_true rfl) dL_law_433 ⟨Nat.le_of_ble_eq_true rfl, Nat.le_of_ble_eq_true rfl⟩ (fun r22 σ21 τ21 H locs h21 hP hS => ?_)
    obtain ⟨⟨rfl, rfl⟩, h21⟩ := h21
    rcases h21 with h23 | h24 | h25 | h26 | h27
    · obtain ⟨q30, k28, k29⟩ := h23
      refine lv_pop hx hb dL_law_436 rfl ?_
      refine lv_goto (tgt := 1357) hx hb dL_law_437 (by decide) ?_
      obtain ⟨x31, ex31⟩ : ∃ y : Int32, y = x0 + 6 := ⟨_, rfl⟩
      have tx31 : x31.toInt = x0.toInt + 6 := (jadd ex31 rfl jz_6 (by omega) (by omega)).trans (by omega)
      refine lv_iinc (v := x31) (lv' := [(3, .int x31), (2, .ref (ad 55)), (1, .ref (ad 0)), (0, .ref b)]) hx hb dL_law_1357 hl (k := 0) rfl (by rw [ex31]; rfl) (by decide) rfl (fun ls hl => ?_)
      refine lv_goto (tgt := 18) hx hb dL_law_1360 (by decide) ?_
      exact ih x31 σ τ _ _ ls (by have h9 := tx31; omega) ⟨hI2, hI9, hI12, hI16, hI18, hI22, hI31, hI38, hI43, hI47, hI50, hI101, hI102, hI103, hI104, hI105, hI106, hI107, hI109, hI110, hI111, hI119, hs_jKept, hs_jBook, (by omega), (by omega), hr0, hr1⟩ hP hS (lv_sub hl [0, 1, 2, 3] rfl)
    · obtain ⟨q34, k32, k33⟩ := h24
      exact absurd (by omega : False) id
    · obtain ⟨q37, k35, k36⟩ := h25
      exact absurd (by omega : False) id
    · obtain ⟨q41, k38, k39, k40⟩ := h26
      exact absurd (by omega : False) id
    · obtain ⟨q43, k42⟩ := h27
      exact absurd (by omega : False) id
  · obtain ⟨q46, k44, k45⟩ := h14
    refine lv_pop hx hb dL_law_426 rfl ?_
    refine lv_aload_n hx hb dL_law_427 rfl (lv_at hl 1 rfl) ?_
    refine lv_aload_n hx hb dL_law_428 rfl (lv_at hl 3 rfl) ?_
    refine lv_iload_n hx hb dL_law_429 rfl (lv_at hl 0 rfl) ?_
    refine lv_iconst (v := 1) hx hb dL_law_430 (by decide) ?_
    refine lv_iadd hx hb dL_law_431 ?_
    refine jtopr ex9.symm ?_
    refine va_sld hx hb hX hbl hbA hS (jin tx9 (by omega) (by omega)) dL_law_432 ?_
    refine jcallV (As := [.int (xs x9.toNatClampNeg)]) (rest := []) ⟨hx, hb, hml, hown, hts⟩ hK hP hA hS hZ (c_X12_of l D cI cL ad zz hJ σ τ (xs x9.toNatClampNeg) ((xs x9.toNatClampNeg).toInt) rfl hI104 hI107) cw_RL_48 (jc_55 cI cL ad σ τ) rfl ⟨Nat.le_of_ble_eq_true rfl, Nat.le_of_ble_eq_true rfl⟩ rfl rfl rfl hl.1 rfl (Nat.le_of_ble_eq_true rfl) dL_law_433 ⟨Nat.le_of_ble_eq_true rfl, Nat.le_of_ble_eq_true rfl⟩ (fun r48 σ47 τ47 H locs h47 hP hS => ?_)
    obtain ⟨⟨rfl, rfl⟩, h47⟩ := h47
    rcases h47 with h49 | h50 | h51 | h52 | h53
    · obtain ⟨q56, k54, k55⟩ := h49
      exact absurd (by omega : False) id
    · obtain ⟨q59, k57, k58⟩ := h50
      refine lv_pop hx hb dL_law_436 rfl ?_
      refine lv_goto (tgt := 1357) hx hb dL_law_437 (by decide) ?_
      obtain ⟨x60, ex60⟩ : ∃ y : Int32, y = x0 + 6 := ⟨_, rfl⟩
      have tx60 : x60.toInt = x0.toInt + 6 := (jadd ex60 rfl jz_6 (by omega) (by omega)).trans (by omega)
      refine lv_iinc (v := x60) (lv' := [(3, .int x60), (2, .ref (ad 55)), (1, .ref (ad 0)), (0, .ref b)]) hx hb dL_law_1357 hl (k := 0) rfl (by rw [ex60]; rfl) (by decide) rfl (fun ls hl => ?_)
      refine lv_goto (tgt := 18) hx hb dL_law_1360 (by decide) ?_
      exact ih x60 σ τ _ _ ls (by have h9 := tx60; omega) ⟨hI2, hI9, hI12, hI16, hI18, hI22, hI31, hI38, hI43, hI47, hI50, hI101, hI102, hI103, hI104, hI105, hI106, hI107, hI109, hI110, hI111, hI119, hs_jKept, hs_jBook, (by omega), (by omega), hr0, hr1⟩ hP hS (lv_sub hl [0, 1, 2, 3] rfl)
    · obtain ⟨q63, k61, k62⟩ := h51
      exact absurd (by omega : False) id
    · obtain ⟨q67, k64, k65, k66⟩ := h52
      exact absurd (by omega : False) id
    · obtain ⟨q69, k68⟩ := h53
      exact absurd (by omega : False) id
  · obtain ⟨q72, k70, k71⟩ := h15
    refine lv_pop hx hb dL_law_426 rfl ?_
    refine lv_aload_n hx hb dL_law_427 rfl (lv_at hl 1 rfl) ?_
    refine lv_aload_n hx hb dL_law_428 rfl (lv_at hl 3 rfl) ?_
    refine lv_iload_n hx hb dL_law_429 rfl (lv_at hl 0 rfl) ?_
    refine lv_iconst (v := 1) hx hb dL_law_430 (by decide) ?_
    refine lv_iadd hx hb dL_law_431 ?_
    refine jtopr ex9.symm ?_
    refine va_sld hx hb hX hbl hbA hS (jin tx9 (by omega) (by omega)) dL_law_432 ?_
    refine jcallV (As := [.int (xs x9.toNatClampNeg)]) (rest := []) ⟨hx, hb, hml, hown, hts⟩ hK hP hA hS hZ (c_X12_of l D cI cL ad zz hJ σ τ (xs x9.toNatClampNeg) ((xs x9.toNatClampNeg).toInt) rfl hI104 hI107) cw_RL_48 (jc_55 cI cL ad σ τ) rfl ⟨Nat.le_of_ble_eq_true rfl, Nat.le_of_ble_eq_true rfl⟩ rfl rfl rfl hl.1 rfl (Nat.le_of_ble_eq_true rfl) dL_law_433 ⟨Nat.le_of_ble_eq_true rfl, Nat.le_of_ble_eq_true rfl⟩ (fun r74 σ73 τ73 H locs h73 hP hS => ?_)
    obtain ⟨⟨rfl, rfl⟩, h73⟩ := h73
    rcases h73 with h75 | h76 | h77 | h78 | h79
    · obtain ⟨q82, k80, k81⟩ := h75
      exact absurd (by omega : False) id
    · obtain ⟨q85, k83, k84⟩ := h76
      exact absurd (by omega : False) id
    · obtain ⟨q88, k86, k87⟩ := h77
      refine lv_pop hx hb dL_law_436 rfl ?_
      refine lv_goto (tgt := 1357) hx hb dL_law_437 (by decide) ?_
      obtain ⟨x89, ex89⟩ : ∃ y : Int32, y = x0 + 6 := ⟨_, rfl⟩
      have tx89 : x89.toInt = x0.toInt + 6 := (jadd ex89 rfl jz_6 (by omega) (by omega)).trans (by omega)
      refine lv_iinc (v := x89) (lv' := [(3, .int x89), (2, .ref (ad 55)), (1, .ref (ad 0)), (0, .ref b)]) hx hb dL_law_1357 hl (k := 0) rfl (by rw [ex89]; rfl) (by decide) rfl (fun ls hl => ?_)
      refine lv_goto (tgt := 18) hx hb dL_law_1360 (by decide) ?_
      exact ih x89 σ τ _ _ ls (by have h9 := tx89; omega) ⟨hI2, hI9, hI12, hI16, hI18, hI22, hI31, hI38, hI43, hI47, hI50, hI101, hI102, hI103, hI104, hI105, hI106, hI107, hI109, hI110, hI111, hI119, hs_jKept, hs_jBook, (by omega), (by omega), hr0, hr1⟩ hP hS (lv_sub hl [0, 1, 2, 3] rfl)
    · obtain ⟨q93, k90, k91, k92⟩ := h78
      exact absurd (by omega : False) id
    · obtain ⟨q95, k94⟩ := h79
      exact absurd (by omega : False) id
  · obtain ⟨q99, k96, k97, k98⟩ := h16
    refine lv_pop hx hb dL_law_426 rfl ?_
    refine lv_aload_n hx hb dL_law_427 rfl (lv_at hl 1 rfl) ?_
    refine lv_aload_n hx hb dL_law_428 rfl (lv_at hl 3 rfl) ?_
    refine lv_iload_n hx hb dL_law_429 rfl (lv_at hl 0 rfl) ?_
    refine lv_iconst (v := 1) hx hb dL_law_430 (by decide) ?_
    refine lv_iadd hx hb dL_law_431 ?_
    refine jtopr ex9.symm ?_
    refine va_sld hx hb hX hbl hbA hS (jin tx9 (by omega) (by omega)) dL_law_432 ?_
    refine jcallV (As := [.int (xs x9.toNatClampNeg)]) (rest := []) ⟨hx, hb, hml, hown, hts⟩ hK hP hA hS hZ (c_X12_of l D cI cL ad zz hJ σ τ (xs x9.toNatClampNeg) ((xs x9.toNatClampNeg).toInt) rfl hI104 hI107) cw_RL_48 (jc_55 cI cL ad σ τ) rfl ⟨Nat.le_of_ble_eq_true rfl, Nat.le_of_ble_eq_true rfl⟩ rfl rfl rfl hl.1 rfl (Nat.le_of_ble_eq_true rfl) dL_law_433 ⟨Nat.le_of_ble_eq_true rfl, Nat.le_of_ble_eq_true rfl⟩ (fun r101 σ100 τ100 H locs h100 hP hS => ?_)
    obtain ⟨⟨rfl, rfl⟩, h100⟩ := h100
    rcases h100 with h102 | h103 | h104 | h105 | h106
    · obtain ⟨q109, k107, k108⟩ := h102
      exact absurd (by omega : False) id
    · obtain ⟨q112, k110, k111⟩ := h103
      exact absurd (by omega : False) id
    · obtain ⟨q115, k113, k114⟩ := h104
      exact absurd (by omega : False) id
    · obtain ⟨q119, k116, k117, k118⟩ := h105
      refine lv_pop hx hb dL_law_436 rfl ?_
      refine lv_goto (tgt := 1357) hx hb dL_law_437 (by decide) ?_
      obtain ⟨x120, ex120⟩ : ∃ y : Int32, y = x0 + 6 := ⟨_, rfl⟩
      have tx120 : x120.toInt = x0.toInt + 6 := (jadd ex120 rfl jz_6 (by omega) (by omega)).trans (by omega)
      refine lv_iinc (v := x120) (lv' := [(3, .int x120), (2, .ref (ad 55)), (1, .ref (ad 0)), (0, .ref b)]) hx hb dL_law_1357 hl (k := 0) rfl (by rw [ex120]; rfl) (by decide) rfl (fun ls hl => ?_)
      refine lv_goto (tgt := 18) hx hb dL_law_1360 (by decide) ?_
      exact ih x120 σ τ _ _ ls (by have h9 := tx120; omega) ⟨hI2, hI9, hI12, hI16, hI18, hI22, hI31, hI38, hI43, hI47, hI50, hI101, hI102, hI103, hI104, hI105, hI106, hI107, hI109, hI110, hI111, hI119, hs_jKept, hs_jBook, (by omega), (by omega), hr0, hr1⟩ hP hS (lv_sub hl [0, 1, 2, 3] rfl)
    · obtain ⟨q122, k121⟩ := h106
      have q122 := q122.symm
      subst q122
      refine lv_pop hx hb dL_law_436 rfl ?_
      refine lv_goto (tgt := 1357) hx hb dL_law_437 (by decide) ?_
      obtain ⟨x123, ex123⟩ : ∃ y : Int32, y = x0 + 6 := ⟨_, rfl⟩
      have tx123 : x123.toInt = x0.toInt + 6 := (jadd ex123 rfl jz_6 (by omega) (by omega)).trans (by omega)
      refine lv_iinc (v := x123) (lv' := [(3, .int x123), (2, .ref (ad 55)), (1, .ref (ad 0)), (0, .ref b)]) hx hb dL_law_1357 hl (k := 0) rfl (by rw [ex123]; rfl) (by decide) rfl (fun ls hl => ?_)
      refine lv_goto (tgt := 18) hx hb dL_law_1360 (by decide) ?_
      exact ih x123 σ τ _ _ ls (by have h9 := tx123; omega) ⟨hI2, hI9, hI12, hI16, hI18, hI22, hI31, hI38, hI43, hI47, hI50, hI101, hI102, hI103, hI104, hI105, hI106, hI107, hI109, hI110, hI111, hI119, hs_jKept, hs_jBook, (by omega), (by omega), hr0, hr1⟩ hP hS (lv_sub hl [0, 1, 2, 3] rfl)
  · obtain ⟨q125, k124⟩ := h17
    have q125 := q125.symm
    subst q125
    refine lv_pop hx hb dL_law_426 rfl ?_
    refine lv_aload_n hx hb dL_law_427 rfl (lv_at hl 1 rfl) ?_
    refine lv_aload_n hx hb dL_law_428 rfl (lv_at hl 3 rfl) ?_
    refine lv_iload_n hx hb dL_law_429 rfl (lv_at hl 0 rfl) ?_
    refine lv_iconst (v := 1) hx hb dL_law_430 (by decide) ?_
    refine lv_iadd hx hb dL_law_431 ?_
    refine jtopr ex9.symm ?_
    refine va_sld hx hb hX hbl hbA hS (jin tx9 (by omega) (by omega)) dL_law_432 ?_
    refine jcallV (As := [.int (xs x9.toNatClampNeg)]) (rest := []) ⟨hx, hb, hml, hown, hts⟩ hK hP hA hS hZ (c_X12_of l D cI cL ad zz hJ σ τ (xs x9.toNatClampNeg) ((xs x9.toNatClampNeg).toInt) rfl hI104 hI107) cw_RL_48 (jc_55 cI cL ad σ τ) rfl ⟨Nat.le_of_ble_eq_true rfl, Nat.le_of_ble_eq_true rfl⟩ rfl rfl rfl hl.1 rfl (Nat.le_of_ble_eq_true rfl) dL_law_433 ⟨Nat.le_of_ble_eq_true rfl, Nat.le_of_ble_eq_true rfl⟩ (fun r127 σ126 τ126 H locs h126 hP hS => ?_)
    obtain ⟨⟨rfl, rfl⟩, h126⟩ := h126
    rcases h126 with h128 | h129 | h130 | h131 | h132
    · obtain ⟨q135, k133, k134⟩ := h128
      exact absurd (by omega : False) id
    · obtain ⟨q138, k136, k137⟩ := h129
      exact absurd (by omega : False) id
    · obtain ⟨q141, k139, k140⟩ := h130
      exact absurd (by omega : False) id
    · obtain ⟨q145, k142, k143, k144⟩ := h131
      refine lv_pop hx hb dL_law_436 rfl ?_
      refine lv_goto (tgt := 1357) hx hb dL_law_437 (by decide) ?_
      obtain ⟨x146, ex146⟩ : ∃ y : Int32, y = x0 + 6 := ⟨_, rfl⟩
      have tx146 : x146.toInt = x0.toInt + 6 := (jadd ex146 rfl jz_6 (by omega) (by omega)).trans (by omega)
      refine lv_iinc (v := x146) (lv' := [(3, .int x146), (2, .ref (ad 55)), (1, .ref (ad 0)), (0, .ref b)]) hx hb dL_law_1357 hl (k := 0) rfl (by rw [ex146]; rfl) (by decide) rfl (fun ls hl => ?_)
      refine lv_goto (tgt := 18) hx hb dL_law_1360 (by decide) ?_
      exact ih x146 σ τ _ _ ls (by have h9 := tx146; omega) ⟨hI2, hI9, hI12, hI16, hI18, hI22, hI31, hI38, hI43, hI47, hI50, hI101, hI102, hI103, hI104, hI105, hI106, hI107, hI109, hI110, hI111, hI119, hs_jKept, hs_jBook, (by omega), (by omega), hr0, hr1⟩ hP hS (lv_sub hl [0, 1, 2, 3] rfl)
    · obtain ⟨q148, k147⟩ := h132
      have q148 := q148.symm
      subst q148
      refine lv_pop hx hb dL_law_436 rfl ?_
      refine lv_goto (tgt := 1357) hx hb dL_law_437 (by decide) ?_
      obtain ⟨x149, ex149⟩ : ∃ y : Int32, y = x0 + 6 := ⟨_, rfl⟩
      have tx149 : x149.toInt = x0.toInt + 6 := (jadd ex149 rfl jz_6 (by omega) (by omega)).trans (by omega)
      refine lv_iinc (v := x149) (lv' := [(3, .int x149), (2, .ref (ad 55)), (1, .ref (ad 0)), (0, .ref b)]) hx hb dL_law_1357 hl (k := 0) rfl (by rw [ex149]; rfl) (by decide) rfl (fun ls hl => ?_)
      refine lv_goto (tgt := 18) hx hb dL_law_1360 (by decide) ?_
      exact ih x149 σ τ _ _ ls (by have h9 := tx149; omega) ⟨hI2, hI9, hI12, hI16, hI18, hI22, hI31, hI38, hI43, hI47, hI50, hI101, hI102, hI103, hI104, hI105, hI106, hI107, hI109, hI110, hI111, hI119, hs_jKept, hs_jBook, (by omega), (by omega), hr0, hr1⟩ hP hS (lv_sub hl [0, 1, 2, 3] rfl)
set_option maxHeartbeats 4000000 in
set_option maxRecDepth 100000 in
theorem law_case_8 {p : Program} {e : Env} {s : State} {m : MethodId} {below : List Frame} {meth : Method} {c : Code} (l : Launch) {b L : Nat} {xs : Nat → Int32} {D : va_G} {cI cL : ClassId} {ad zz : Nat → Nat} (C0 : lw_At p s m meth c b L xs) (hJ : jD ad) (hA : ∀ q, jA ad q → s.heap.size ≤ q) (hK : jK D cI cL s) (hZ : jZ zz (fun q : Nat => s.heap.size ≤ q) s s.heap) {x0 : Int32} (hx0 : 0 ≤ x0.toInt) (hxL : x0.toInt + 6 ≤ (L : Int)) (hL : L ≤ 384) {σ : Nat → Nat → Int32} {τ : Nat → Nat → Int64} {H : Heap} {locs : List Loc} (hS : va_S (fun q : Nat => s.heap.size ≤ q) s.heap H locs) {ls : Array Slot} (hAll : jAll σ τ) (hP : jH D cI cL ad σ τ H) (hl : lv_has ls 4 [(3, .int x0), (2, .ref (ad 55)), (1, .ref (ad 0)), (0, .ref b)]) (ih : ∀ (x1 : Int32) (σ : Nat → Nat → Int32) (τ : Nat → Nat → Int64) (H : Heap) (locs : List Loc) (ls : Array Slot), x1.toInt = x0.toInt + 6 → jAll σ τ → jH D cI cL ad σ τ H → va_S (fun q : Nat => s.heap.size ≤ q) s.heap H locs → lv_has ls 4 [(3, .int x1), (2, .ref (ad 55)), (1, .ref (ad 0)), (0, .ref b)] → W p l e room_1 s m #[Value.ref b] below meth c H locs 90 348600 (lw_Z below #[Value.ref b] s) (F0 m 18 ls [])) : W p l e room_1 s m #[Value.ref b] below meth c H locs 90 348600 (lw_Z below #[Value.ref b] s) (F0 m 440 ls []) := by
  obtain ⟨hx, hb, hr, hml, hown, hts0, hX, hbl, hlocks, hgv⟩ := C0
  have hts : ∀ w ∈ wsL_law, w.before #[Value.ref b] s = true := fun w h => hts0 w (wsL_law_in w h)
  have hbA : ¬ (fun q : Nat => s.heap.size ≤ q) b := Nat.not_le.mpr hbl
  have hown : s.vm.findClass RL = some m.cls := hown
  obtain ⟨hI2, hI9, hI12, hI16, hI18, hI22, hI31, hI38, hI43, hI47, hI50, hI101, hI102, hI103, hI104, hI105, hI106, hI107, hI109, hI110, hI111, hI119, hs_jKept, hs_jBook, ht0, ht1, hr0, hr1⟩ := hAll
  have hL9 : (L : Int) ≤ 384 := by omega
  obtain ⟨i1, i2, w3⟩ : (0 ≤ (σ 38 0).toInt ∧ (σ 38 0).toInt ≤ 20) ∧ (0 ≤ (σ 38 1).toInt ∧ (σ 38 1).toInt ≤ 1000) ∧ (∀ k : Nat, k < 20 → 0 ≤ (σ 39 k).toInt ∧ (σ 39 k).toInt ≤ 6) := id hI38
  obtain ⟨i4, w5, w6, w7⟩ : (0 ≤ (σ 55 32).toInt ∧ (σ 55 32).toInt ≤ 20) ∧ (∀ k : Nat, k < 20 → 0 ≤ (σ 70 k).toInt ∧ (σ 70 k).toInt ≤ 6) ∧ (∀ k : Nat, k < 20 → 0 ≤ (σ 71 k).toInt ∧ (σ 71 k).toInt ≤ 8) ∧ (∀ k : Nat, k < 160 → 0 ≤ (σ 72 k).toInt ∧ (σ 72 k).toInt ≤ 3) := id hI106
  refine lv_aload_n hx hb dL_law_440 rfl (lv_at hl 2 rfl) ?_
  refine lv_aload_n hx hb dL_law_441 rfl (lv_at hl 3 rfl) ?_
  refine lv_iload_n hx hb dL_law_442 rfl (lv_at hl 0 rfl) ?_
  refine lv_iconst (v := 1) hx hb dL_law_443 (by decide) ?_
  have g8 := jrg (rfl : x0.toInt = x0.toInt)
  refine lv_iadd hx hb dL_law_444 ?_
  refine lv_topi (fun x9 ex9 => ?_)
  have tx9 : x9.toInt = x0.toInt + 1 := (jadd ex9 rfl jz_1 (by omega) (by omega)).trans (by omega)
  refine va_sld hx hb hX hbl hbA hS (jin tx9 (by omega) (by omega)) dL_law_445 ?_
  have g10 := jrg (rfl : (xs x9.toNatClampNeg).toInt = (xs x9.toNatClampNeg).toInt)
  refine lv_aload_n hx hb dL_law_446 rfl (lv_at hl 3 rfl) ?_
  refine lv_iload_n hx hb dL_law_447 rfl (lv_at hl 0 rfl) ?_
  refine lv_iconst (v := 2) hx hb dL_law_448 (by decide) ?_
  refine lv_iadd hx hb dL_law_449 ?_
  refine lv_topi (fun x11 ex11 => ?_)
  have tx11 : x11.toInt = x0.toInt + 2 := (jadd ex11 rfl jz_2 (by omega) (by omega)).trans (by omega)
  refine va_sld hx hb hX hbl hbA hS (jin tx11 (by omega) (by omega)) dL_law_450 ?_
  have g12 := jrg (rfl : (xs x11.toNatClampNeg).toInt = (xs x11.toNatClampNeg).toInt)
  refine lv_aload_n hx hb dL_law_451 rfl (lv_at hl 3 rfl) ?_
  refine lv_iload_n hx hb dL_law_452 rfl (lv_at hl 0 rfl) ?_
  refine lv_iconst (v := 3) hx hb dL_law_453 (by decide) ?_
  refine lv_iadd hx hb dL_law_454 ?_
  refine lv_topi (fun x13 ex13 => ?_)
  have tx13 : x13.toInt = x0.toInt + 3 := (jadd ex13 rfl jz_3 (by omega) (by omega)).trans (by omega)
  refine va_sld hx hb hX hbl hbA hS (jin tx13 (by omega) (by omega)) dL_law_455 ?_
  have g14 := jrg (rfl : (xs x13.toNatClampNeg).toInt = (xs x13.toNatClampNeg).toInt)
  refine jcallV (As := [.int (xs x9.toNatClampNeg), .int (xs x11.toNatClampNeg), .int (xs x13.toNatClampNeg)]) (rest := []) ⟨hx, hb, hml, hown, hts⟩ hK hP hA hS hZ (c_X11_over l D cI cL ad zz hJ σ τ (xs x9.toNatClampNeg) ((xs x9.toNatClampNeg).toInt) rfl (xs x11.toNatClampNeg) ((xs x11.toNatClampNeg).toInt) rfl (xs x13.toNatClampNeg) ((xs x13.toNatClampNeg).toInt) rfl hI2 hI22) cw_RL_49 (jc_0 cI cL ad σ τ) rfl ⟨Nat.le_of_ble_eq_true rfl, Nat.le_of_ble_eq_true rfl⟩ rfl rfl rfl hl.1 rfl (Nat.le_of_ble_eq_true rfl) dL_law_456 ⟨Nat.le_of_ble_eq_true rfl, Nat.le_of_ble_eq_true rfl⟩ (fun r16 σ15 τ15 H locs h15 hP hS => ?_)
  obtain ⟨rfl, f17, h15⟩ := h15
  refine lv_pop hx hb dL_law_459 rfl ?_
  refine lv_aload_n hx hb dL_law_460 rfl (lv_at hl 1 rfl) ?_
  refine lv_aload_n hx hb dL_law_461 rfl (lv_at hl 3 rfl) ?_
  refine lv_iload_n hx hb dL_law_462 rfl (lv_at hl 0 rfl) ?_
  refine lv_iconst (v := 1) hx hb dL_law_463 (by decide) ?_
  refine lv_iadd hx hb dL_law_464 ?_
  refine jtopr ex9.symm ?_
  refine va_sld hx hb hX hbl hbA hS (jin tx9 (by omega) (by omega)) dL_law_465 ?_
  refine lv_aload_n hx hb dL_law_466 rfl (lv_at hl 3 rfl) ?_
  refine lv_iload_n hx hb dL_law_467 rfl (lv_at hl 0 rfl) ?_
  refine lv_iconst (v := 2) hx hb dL_law_468 (by decide) ?_
  refine lv_iadd hx hb dL_law_469 ?_
  refine jtopr ex11.symm ?_
  refine va_sld hx hb hX hbl hbA hS (jin tx11 (by omega) (by omega)) dL_law_470 ?_
  refine lv_aload_n hx hb dL_law_471 rfl (lv_at hl 3 rfl) ?_
  refine lv_iload_n hx hb dL_law_472 rfl (lv_at hl 0 rfl) ?_
  refine lv_iconst (v := 3) hx hb dL_law_473 (by decide) ?_
  refine lv_iadd hx hb dL_law_474 ?_
  refine jtopr ex13.symm ?_
  refine va_sld hx hb hX hbl hbA hS (jin tx13 (by omega) (by omega)) dL_law_475 ?_
  have I19 : jI101 σ15 := jI101_fr (congrFun (f17 55 (by decide)) 4) (congrFun (f17 55 (by decide)) 5) (f17 56 (by decide)) (f17 57 (by decide)) (f17 58 (by decide)) (f17 59 (by decide)) hI101
  have I20 : jI102 σ15 := jI102_fr (congrFun (f17 55 (by decide)) 6) (f17 60 (by decide)) (f17 61 (by decide)) hI102
  have I21 : jI103 σ15 := jI103_fr (congrFun (f17 55 (by decide)) 9) hI103
  have I22 : jI104 σ15 := jI104_fr (congrFun (f17 55 (by decide)) 10) (congrFun (f17 55 (by decide)) 12) (congrFun (f17 55 (by decide)) 13) (f17 62 (by decide)) (f17 67 (by decide)) hI104
  have I23 : jI105 σ15 := jI105_fr (congrFun (f17 55 (by decide)) 15) (f17 65 (by decide)) hI105
  have I24 : jI119 σ15 := jI119_fr (f17 68 (by decide)) hI119
  refine jcallV (As := [.int (xs x9.toNatClampNeg), .int (xs x11.toNatClampNeg), .int (xs x13.toNatClampNeg)]) (rest := []) ⟨hx, hb, hml, hown, hts⟩ hK hP hA hS hZ (c_X12_over l D cI cL ad zz hJ σ15 τ (xs x9.toNatClampNeg) ((xs x9.toNatClampNeg).toInt) rfl (xs x11.toNatClampNeg) ((xs x11.toNatClampNeg).toInt) rfl (xs x13.toNatClampNeg) ((xs x13.toNatClampNeg).toInt) rfl I19 I20 I21 I22 I23 I24) cw_RL_52 (jc_55 cI cL ad σ15 τ) rfl ⟨Nat.le_of_ble_eq_true rfl, Nat.le_of_ble_eq_true rfl⟩ rfl rfl rfl hl.1 rfl (Nat.le_of_ble_eq_true rfl) dL_law_476 ⟨Nat.le_of_ble_eq_true rfl, Nat.le_of_ble_eq_true rfl⟩ (fun r26 σ25 τ25 H locs h25 hP hS => ?_)
  obtain ⟨rfl, f27, f28, I29, h25⟩ := h25
  refine lv_pop hx hb dL_law_479 rfl ?_
  refine lv_goto (tgt := 1357) hx hb dL_law_480 (by decide) ?_
  obtain ⟨x31, ex31⟩ : ∃ y : Int32, y = x0 + 6 := ⟨_, rfl⟩
  have tx31 : x31.toInt = x0.toInt + 6 := (jadd ex31 rfl jz_6 (by omega) (by omega)).trans (by omega)
  refine lv_iinc (v := x31) (lv' := [(3, .int x31), (2, .ref (ad 55)), (1, .ref (ad 0)), (0, .ref b)]) hx hb dL_law_1357 hl (k := 0) rfl (by rw [ex31]; rfl) (by decide) rfl (fun ls hl => ?_)
  refine lv_goto (tgt := 18) hx hb dL_law_1360 (by decide) ?_
  have I32 : jI2 σ25 := jI2_fr ((congrFun (f27 2 (by decide)) 0).trans (congrFun (f17 2 (by decide)) 0)) ((congrFun (f27 2 (by decide)) 1).trans (congrFun (f17 2 (by decide)) 1)) ((congrFun (f27 2 (by decide)) 2).trans (congrFun (f17 2 (by decide)) 2)) ((congrFun (f27 2 (by decide)) 3).trans (congrFun (f17 2 (by decide)) 3)) ((f27 6 (by decide)).trans (f17 6 (by decide))) hI2
  have I33 : jI9 σ25 := jI9_fr ((congrFun (f27 9 (by decide)) 0).trans (congrFun (f17 9 (by decide)) 0)) ((f27 10 (by decide)).trans (f17 10 (by decide))) ((f27 11 (by decide)).trans (f17 11 (by decide))) hI9
  have I34 : jI12 σ25 := jI12_fr ((congrFun (f27 12 (by decide)) 0).trans (congrFun (f17 12 (by decide)) 0)) ((f27 13 (by decide)).trans (f17 13 (by decide))) hI12
  have I35 : jI16 σ25 := jI16_fr ((congrFun (f27 16 (by decide)) 0).trans (congrFun (f17 16 (by decide)) 0)) ((congrFun (f27 16 (by decide)) 1).trans (congrFun (f17 16 (by decide)) 1)) ((congrFun (f27 16 (by decide)) 2).trans (congrFun (f17 16 (by decide)) 2)) ((f27 17 (by decide)).trans (f17 17 (by decide))) hI16
  have I36 : jI18 σ25 := jI18_fr ((congrFun (f27 18 (by decide)) 0).trans (congrFun (f17 18 (by decide)) 0)) ((f27 19 (by decide)).trans (f17 19 (by decide))) hI18
  have I37 : jI22 σ25 := jI22_fr ((congrFun (f27 22 (by decide)) 0).trans (congrFun (f17 22 (by decide)) 0)) ((f27 23 (by decide)).trans (f17 23 (by decide))) hI22
  have I38 : jI31 σ25 := jI31_fr ((congrFun (f27 31 (by decide)) 8).trans (congrFun (f17 31 (by decide)) 8)) ((f27 33 (by decide)).trans (f17 33 (by decide))) ((f27 36 (by decide)).trans (f17 36 (by decide))) hI31
  have I39 : jI38 σ25 := jI38_fr ((congrFun (f27 38 (by decide)) 0).trans (congrFun (f17 38 (by decide)) 0)) ((congrFun (f27 38 (by decide)) 1).trans (congrFun (f17 38 (by decide)) 1)) ((f27 39 (by decide)).trans (f17 39 (by decide))) hI38
  have I40 : jI43 σ25 := jI43_fr ((congrFun (f27 43 (by decide)) 8).trans (congrFun (f17 43 (by decide)) 8)) hI43
  have I41 : jI47 σ25 := jI47_fr ((congrFun (f27 47 (by decide)) 0).trans (congrFun (f17 47 (by decide)) 0)) ((f27 48 (by decide)).trans (f17 48 (by decide))) ((f27 49 (by decide)).trans (f17 49 (by decide))) hI47
  have I42 : jI50 σ25 := jI50_fr ((f27 52 (by decide)).trans (f17 52 (by decide))) hI50
  have I43 : jI101 σ25 := jI101_fr (f28 4 (by decide)) (f28 5 (by decide)) (f27 56 (by decide)) (f27 57 (by decide)) (f27 58 (by decide)) (f27 59 (by decide)) I19
  have I44 : jI102 σ25 := jI102_fr (f28 6 (by decide)) (f27 60 (by decide)) (f27 61 (by decide)) I20
  have I45 : jI103 σ25 := jI103_fr (f28 9 (by decide)) I21
  have I46 : jI104 σ25 := jI104_fr (f28 10 (by decide)) (f28 12 (by decide)) (f28 13 (by decide)) (f27 62 (by decide)) (f27 67 (by decide)) I22
  have I47 : jI105 σ25 := jI105_fr (f28 15 (by decide)) (f27 65 (by decide)) I23
  have I48 : jI106 σ25 := jI106_fr ((f28 32 (by decide)).trans (congrFun (f17 55 (by decide)) 32)) ((f27 70 (by decide)).trans (f17 70 (by decide))) ((f27 71 (by decide)).trans (f17 71 (by decide))) ((f27 72 (by decide)).trans (f17 72 (by decide))) hI106
  have I49 : jI107 σ25 := jI107_fr ((f28 12 (by decide)).trans (congrFun (f17 55 (by decide)) 12)) ((f28 47 (by decide)).trans (congrFun (f17 55 (by decide)) 47)) ((f27 80 (by decide)).trans (f17 80 (by decide))) hI107
  have I50 : jI109 σ25 := jI109_fr ((f28 50 (by decide)).trans (congrFun (f17 55 (by decide)) 50)) hI109
  have I51 : jI110 σ25 := jI110_fr ((f27 86 (by decide)).trans (f17 86 (by decide))) ((f27 87 (by decide)).trans (f17 87 (by decide))) hI110
  have I52 : jI111 σ25 := jI111_fr ((f27 79 (by decide)).trans (f17 79 (by decide))) hI111
  have p53 : jKept σ25 := jKept.fr ((f27 75 (by decide)).trans (f17 75 (by decide))) ((f27 76 (by decide)).trans (f17 76 (by decide))) ((f27 77 (by decide)).trans (f17 77 (by decide))) hs_jKept
  have p54 : jBook σ25 := jBook.fr ((f28 47 (by decide)).trans (congrFun (f17 55 (by decide)) 47)) ((f28 10 (by decide)).trans (congrFun (f17 55 (by decide)) 10)) ((f27 81 (by decide)).trans (f17 81 (by decide))) hs_jBook
  have z55 : (σ25 38 0).toInt = (σ 38 0).toInt := (congrArg Int32.toInt (show σ25 38 0 = (σ 38 0) from ((congrFun (f27 38 (by decide)) 0).trans (congrFun (f17 38 (by decide)) 0))))
  have z56 : (σ25 55 32).toInt = (σ 55 32).toInt := (congrArg Int32.toInt (show σ25 55 32 = (σ 55 32) from ((f28 32 (by decide)).trans (congrFun (f17 55 (by decide)) 32))))
  have z57 : (σ25 38 1).toInt = (σ 38 1).toInt := (congrArg Int32.toInt (show σ25 38 1 = (σ 38 1) from ((congrFun (f27 38 (by decide)) 1).trans (congrFun (f17 38 (by decide)) 1))))
  have z58 : (σ25 55 55).toInt = (σ 55 55).toInt := (congrArg Int32.toInt (show σ25 55 55 = (σ 55 55) from ((f28 55 (by decide)).trans (congrFun (f17 55 (by decide)) 55))))
  exact ih x31 σ25 τ _ _ ls (by have h9 := tx31; omega) ⟨I32, I33, I34, I35, I36, I37, I38, I39, I40, I41, I42, I43, I44, I45, I46, I47, I48, I49, I50, I51, I52, I29, p53, p54, (by omega), (by omega), (show jKd (σ25 39) (σ25 70) (σ25 55 32).toInt by rw [show σ25 39 = σ 39 from ((f27 39 (by decide)).trans (f17 39 (by decide))), show σ25 70 = σ 70 from ((f27 70 (by decide)).trans (f17 70 (by decide))), show (σ25 55 32).toInt = (σ 55 32).toInt from by omega]; exact hr0), (show jTt (σ25 42) (σ25 85) (σ25 55 55).toInt by rw [show σ25 42 = σ 42 from ((f27 42 (by decide)).trans (f17 42 (by decide))), show σ25 85 = σ 85 from ((f27 85 (by decide)).trans (f17 85 (by decide))), show (σ25 55 55).toInt = (σ 55 55).toInt from by omega]; exact hr1)⟩ hP hS (lv_sub hl [0, 1, 2, 3] rfl)
set_option maxHeartbeats 4000000 in
set_option maxRecDepth 100000 in
theorem law_case_9 {p : Program} {e : Env} {s : State} {m : MethodId} {below : List Frame} {meth : Method} {c : Code} (l : Launch) {b L : Nat} {xs : Nat → Int32} {D : va_G} {cI cL : ClassId} {ad zz : Nat → Nat} (C0 : lw_At p s m meth c b L xs) (hJ : jD ad) (hA : ∀ q, jA ad q → s.heap.size ≤ q) (hK : jK D cI cL s) (hZ : jZ zz (fun q : Nat => s.heap.size ≤ q) s s.heap) {x0 : Int32} (hx0 : 0 ≤ x0.toInt) (hxL : x0.toInt + 6 ≤ (L : Int)) (hL : L ≤ 384) {σ : Nat → Nat → Int32} {τ : Nat → Nat → Int64} {H : Heap} {locs : List Loc} (hS : va_S (fun q : Nat => s.heap.size ≤ q) s.heap H locs) {ls : Array Slot} (hAll : jAll σ τ) (hP : jH D cI cL ad σ τ H) (hl : lv_has ls 4 [(3, .int x0), (2, .ref (ad 55)), (1, .ref (ad 0)), (0, .ref b)]) (ih : ∀ (x1 : Int32) (σ : Nat → Nat → Int32) (τ : Nat → Nat → Int64) (H : Heap) (locs : List Loc) (ls : Array Slot), x1.toInt = x0.toInt + 6 → jAll σ τ → jH D cI cL ad σ τ H → va_S (fun q : Nat => s.heap.size ≤ q) s.heap H locs → lv_has ls 4 [(3, .int x1), (2, .ref (ad 55)), (1, .ref (ad 0)), (0, .ref b)] → W p l e room_1 s m #[Value.ref b] below meth c H locs 90 348600 (lw_Z below #[Value.ref b] s) (F0 m 18 ls [])) : W p l e room_1 s m #[Value.ref b] below meth c H locs 90 348600 (lw_Z below #[Value.ref b] s) (F0 m 483 ls []) := by
  obtain ⟨hx, hb, hr, hml, hown, hts0, hX, hbl, hlocks, hgv⟩ := C0
  have hts : ∀ w ∈ wsL_law, w.before #[Value.ref b] s = true := fun w h => hts0 w (wsL_law_in w h)
  have hbA : ¬ (fun q : Nat => s.heap.size ≤ q) b := Nat.not_le.mpr hbl
  have hown : s.vm.findClass RL = some m.cls := hown
  obtain ⟨hI2, hI9, hI12, hI16, hI18, hI22, hI31, hI38, hI43, hI47, hI50, hI101, hI102, hI103, hI104, hI105, hI106, hI107, hI109, hI110, hI111, hI119, hs_jKept, hs_jBook, ht0, ht1, hr0, hr1⟩ := hAll
  have hL9 : (L : Int) ≤ 384 := by omega
  obtain ⟨i1, i2, w3⟩ : (0 ≤ (σ 38 0).toInt ∧ (σ 38 0).toInt ≤ 20) ∧ (0 ≤ (σ 38 1).toInt ∧ (σ 38 1).toInt ≤ 1000) ∧ (∀ k : Nat, k < 20 → 0 ≤ (σ 39 k).toInt ∧ (σ 39 k).toInt ≤ 6) := id hI38
  obtain ⟨i4, w5, w6, w7⟩ : (0 ≤ (σ 55 32).toInt ∧ (σ 55 32).toInt ≤ 20) ∧ (∀ k : Nat, k < 20 → 0 ≤ (σ 70 k).toInt ∧ (σ 70 k).toInt ≤ 6) ∧ (∀ k : Nat, k < 20 → 0 ≤ (σ 71 k).toInt ∧ (σ 71 k).toInt ≤ 8) ∧ (∀ k : Nat, k < 160 → 0 ≤ (σ 72 k).toInt ∧ (σ 72 k).toInt ≤ 3) := id hI106
  refine lv_aload_n hx hb dL_law_483 rfl (lv_at hl 2 rfl) ?_
  refine lv_aload_n hx hb dL_law_484 rfl (lv_at hl 3 rfl) ?_
  refine lv_iload_n hx hb dL_law_485 rfl (lv_at hl 0 rfl) ?_
  refine lv_iconst (v := 1) hx hb dL_law_486 (by decide) ?_
  have g8 := jrg (rfl : x0.toInt = x0.toInt)
  refine lv_iadd hx hb dL_law_487 ?_
  refine lv_topi (fun x9 ex9 => ?_)
  have tx9 : x9.toInt = x0.toInt + 1 := (jadd ex9 rfl jz_1 (by omega) (by omega)).trans (by omega)
  refine va_sld hx hb hX hbl hbA hS (jin tx9 (by omega) (by omega)) dL_law_488 ?_
  have g10 := jrg (rfl : (xs x9.toNatClampNeg).toInt = (xs x9.toNatClampNeg).toInt)
  refine lv_aload_n hx hb dL_law_489 rfl (lv_at hl 3 rfl) ?_
  refine lv_iload_n hx hb dL_law_490 rfl (lv_at hl 0 rfl) ?_
  refine lv_iconst (v := 2) hx hb dL_law_491 (by decide) ?_
  refine lv_iadd hx hb dL_law_492 ?_
  refine lv_topi (fun x11 ex11 => ?_)
  have tx11 : x11.toInt = x0.toInt + 2 := (jadd ex11 rfl jz_2 (by omega) (by omega)).trans (by omega)
  refine va_sld hx hb hX hbl hbA hS (jin tx11 (by omega) (by omega)) dL_law_493 ?_
  have g12 := jrg (rfl : (xs x11.toNatClampNeg).toInt = (xs x11.toNatClampNeg).toInt)
  refine lv_aload_n hx hb dL_law_494 rfl (lv_at hl 3 rfl) ?_
  refine lv_iload_n hx hb dL_law_495 rfl (lv_at hl 0 rfl) ?_
  refine lv_iconst (v := 3) hx hb dL_law_496 (by decide) ?_
  refine lv_iadd hx hb dL_law_497 ?_
  refine lv_topi (fun x13 ex13 => ?_)
  have tx13 : x13.toInt = x0.toInt + 3 := (jadd ex13 rfl jz_3 (by omega) (by omega)).trans (by omega)
  refine va_sld hx hb hX hbl hbA hS (jin tx13 (by omega) (by omega)) dL_law_498 ?_
  have g14 := jrg (rfl : (xs x13.toNatClampNeg).toInt = (xs x13.toNatClampNeg).toInt)
  refine jcallV (As := [.int (xs x9.toNatClampNeg), .int (xs x11.toNatClampNeg), .int (xs x13.toNatClampNeg)]) (rest := []) ⟨hx, hb, hml, hown, hts⟩ hK hP hA hS hZ (c_X11_rule l D cI cL ad zz hJ σ τ (xs x9.toNatClampNeg) ((xs x9.toNatClampNeg).toInt) rfl (xs x11.toNatClampNeg) ((xs x11.toNatClampNeg).toInt) rfl (xs x13.toNatClampNeg) ((xs x13.toNatClampNeg).toInt) rfl hI38) cw_RL_53 (jc_0 cI cL ad σ τ) rfl ⟨Nat.le_of_ble_eq_true rfl, Nat.le_of_ble_eq_true rfl⟩ rfl rfl rfl hl.1 rfl (Nat.le_of_ble_eq_true rfl) dL_law_499 ⟨Nat.le_of_ble_eq_true rfl, Nat.le_of_ble_eq_true rfl⟩ (fun r16 σ15 τ15 H locs h15 hP hS => ?_)
  obtain ⟨rfl, f17, f18, I19, h15⟩ := h15
  obtain ⟨i21, i22, w23⟩ : (0 ≤ (σ15 38 0).toInt ∧ (σ15 38 0).toInt ≤ 20) ∧ (0 ≤ (σ15 38 1).toInt ∧ (σ15 38 1).toInt ≤ 1000) ∧ (∀ k : Nat, k < 20 → 0 ≤ (σ15 39 k).toInt ∧ (σ15 39 k).toInt ≤ 6) := id I19
  have z24 : (σ15 38 1).toInt = (σ 38 1).toInt := (congrArg Int32.toInt (show σ15 38 1 = (σ 38 1) from (f18 1 (by decide))))
  rcases h15 with h25 | h26 | h27
  · obtain ⟨q31, k28, k29, k30⟩ := h25
    have q31 := q31.symm
    subst q31
    refine lv_pop hx hb dL_law_502 rfl ?_
    refine lv_aload_n hx hb dL_law_503 rfl (lv_at hl 1 rfl) ?_
    refine lv_aload_n hx hb dL_law_504 rfl (lv_at hl 3 rfl) ?_
    refine lv_iload_n hx hb dL_law_505 rfl (lv_at hl 0 rfl) ?_
    refine lv_iconst (v := 1) hx hb dL_law_506 (by decide) ?_
    refine lv_iadd hx hb dL_law_507 ?_
    refine jtopr ex9.symm ?_
    refine va_sld hx hb hX hbl hbA hS (jin tx9 (by omega) (by omega)) dL_law_508 ?_
    refine lv_aload_n hx hb dL_law_509 rfl (lv_at hl 3 rfl) ?_
    refine lv_iload_n hx hb dL_law_510 rfl (lv_at hl 0 rfl) ?_
    refine lv_iconst (v := 2) hx hb dL_law_511 (by decide) ?_
    refine lv_iadd hx hb dL_law_512 ?_
    refine jtopr ex11.symm ?_
    refine va_sld hx hb hX hbl hbA hS (jin tx11 (by omega) (by omega)) dL_law_513 ?_
    refine lv_aload_n hx hb dL_law_514 rfl (lv_at hl 3 rfl) ?_
    refine lv_iload_n hx hb dL_law_515 rfl (lv_at hl 0 rfl) ?_
    refine lv_iconst (v := 3) hx hb dL_law_516 (by decide) ?_
    refine lv_iadd hx hb dL_law_517 ?_
    refine jtopr ex13.symm ?_
    refine va_sld hx hb hX hbl hbA hS (jin tx13 (by omega) (by omega)) dL_law_518 ?_
    have I32 : jI106 σ15 := jI106_fr (congrFun (f17 55 (by decide)) 32) (f17 70 (by decide)) (f17 71 (by decide)) (f17 72 (by decide)) hI106
    have z33 : (σ15 55 32).toInt = (σ 55 32).toInt := (congrArg Int32.toInt (show σ15 55 32 = (σ 55 32) from (congrFun (f17 55 (by decide)) 32)))
    refine jcallV (As := [.int (xs x9.toNatClampNeg), .int (xs x11.toNatClampNeg), .int (xs x13.toNatClampNeg)]) (rest := []) ⟨hx, hb, hml, hown, hts⟩ hK hP hA hS hZ (c_X12_rule l D cI cL ad zz hJ σ15 τ (xs x9.toNatClampNeg) ((xs x9.toNatClampNeg).toInt) rfl (xs x11.toNatClampNeg) ((xs x11.toNatClampNeg).toInt) rfl (xs x13.toNatClampNeg) ((xs x13.toNatClampNeg).toInt) rfl I32) cw_RL_56 (jc_55 cI cL ad σ15 τ) rfl ⟨Nat.le_of_ble_eq_true rfl, Nat.le_of_ble_eq_true rfl⟩ rfl rfl rfl hl.1 rfl (Nat.le_of_ble_eq_true rfl) dL_law_519 ⟨Nat.le_of_ble_eq_true rfl, Nat.le_of_ble_eq_true rfl⟩ (fun r35 σ34 τ34 H locs h34 hP hS => ?_)
    obtain ⟨rfl, f36, f37, I38, h34⟩ := h34
    obtain ⟨i40, w41, w42, w43⟩ : (0 ≤ (σ34 55 32).toInt ∧ (σ34 55 32).toInt ≤ 20) ∧ (∀ k : Nat, k < 20 → 0 ≤ (σ34 70 k).toInt ∧ (σ34 70 k).toInt ≤ 6) ∧ (∀ k : Nat, k < 20 → 0 ≤ (σ34 71 k).toInt ∧ (σ34 71 k).toInt ≤ 8) ∧ (∀ k : Nat, k < 160 → 0 ≤ (σ34 72 k).toInt ∧ (σ34 72 k).toInt ≤ 3) := id I38
    rcases h34 with h44 | h45 | h46
    · obtain ⟨q50, k47, k48, k49⟩ := h44
      have q50 := q50.symm
      subst q50
      refine lv_pop hx hb dL_law_522 rfl ?_
      refine lv_goto (tgt := 1357) hx hb dL_law_523 (by decide) ?_
      obtain ⟨x51, ex51⟩ : ∃ y : Int32, y = x0 + 6 := ⟨_, rfl⟩
      have tx51 : x51.toInt = x0.toInt + 6 := (jadd ex51 rfl jz_6 (by omega) (by omega)).trans (by omega)
      refine lv_iinc (v := x51) (lv' := [(3, .int x51), (2, .ref (ad 55)), (1, .ref (ad 0)), (0, .ref b)]) hx hb dL_law_1357 hl (k := 0) rfl (by rw [ex51]; rfl) (by decide) rfl (fun ls hl => ?_)
      refine lv_goto (tgt := 18) hx hb dL_law_1360 (by decide) ?_
      have I52 : jI2 σ34 := jI2_fr ((congrFun (f36 2 (by decide)) 0).trans (congrFun (f17 2 (by decide)) 0)) ((congrFun (f36 2 (by decide)) 1).trans (congrFun (f17 2 (by decide)) 1)) ((congrFun (f36 2 (by decide)) 2).trans (congrFun (f17 2 (by decide)) 2)) ((congrFun (f36 2 (by decide)) 3).trans (congrFun (f17 2 (by decide)) 3)) ((f36 6 (by decide)).trans (f17 6 (by decide))) hI2
      have I53 : jI9 σ34 := jI9_fr ((congrFun (f36 9 (by decide)) 0).trans (congrFun (f17 9 (by decide)) 0)) ((f36 10 (by decide)).trans (f17 10 (by decide))) ((f36 11 (by decide)).trans (f17 11 (by decide))) hI9
      have I54 : jI12 σ34 := jI12_fr ((congrFun (f36 12 (by decide)) 0).trans (congrFun (f17 12 (by decide)) 0)) ((f36 13 (by decide)).trans (f17 13 (by decide))) hI12
      have I55 : jI16 σ34 := jI16_fr ((congrFun (f36 16 (by decide)) 0).trans (congrFun (f17 16 (by decide)) 0)) ((congrFun (f36 16 (by decide)) 1).trans (congrFun (f17 16 (by decide)) 1)) ((congrFun (f36 16 (by decide)) 2).trans (congrFun (f17 16 (by decide)) 2)) ((f36 17 (by decide)).trans (f17 17 (by decide))) hI16
      have I56 : jI18 σ34 := jI18_fr ((congrFun (f36 18 (by decide)) 0).trans (congrFun (f17 18 (by decide)) 0)) ((f36 19 (by decide)).trans (f17 19 (by decide))) hI18
      have I57 : jI22 σ34 := jI22_fr ((congrFun (f36 22 (by decide)) 0).trans (congrFun (f17 22 (by decide)) 0)) ((f36 23 (by decide)).trans (f17 23 (by decide))) hI22
      have I58 : jI31 σ34 := jI31_fr ((congrFun (f36 31 (by decide)) 8).trans (congrFun (f17 31 (by decide)) 8)) ((f36 33 (by decide)).trans (f17 33 (by decide))) ((f36 36 (by decide)).trans (f17 36 (by decide))) hI31
      have I59 : jI38 σ34 := jI38_fr (congrFun (f36 38 (by decide)) 0) (congrFun (f36 38 (by decide)) 1) (f36 39 (by decide)) I19
      have I60 : jI43 σ34 := jI43_fr ((congrFun (f36 43 (by decide)) 8).trans (congrFun (f17 43 (by decide)) 8)) hI43
      have I61 : jI47 σ34 := jI47_fr ((congrFun (f36 47 (by decide)) 0).trans (congrFun (f17 47 (by decide)) 0)) ((f36 48 (by decide)).trans (f17 48 (by decide))) ((f36 49 (by decide)).trans (f17 49 (by decide))) hI47
      have I62 : jI50 σ34 := jI50_fr ((f36 52 (by decide)).trans (f17 52 (by decide))) hI50
      have I63 : jI101 σ34 := jI101_fr ((f37 4 (by decide)).trans (congrFun (f17 55 (by decide)) 4)) ((f37 5 (by decide)).trans (congrFun (f17 55 (by decide)) 5)) ((f36 56 (by decide)).trans (f17 56 (by decide))) ((f36 57 (by decide)).trans (f17 57 (by decide))) ((f36 58 (by decide)).trans (f17 58 (by decide))) ((f36 59 (by decide)).trans (f17 59 (by decide))) hI101
      have I64 : jI102 σ34 := jI102_fr ((f37 6 (by decide)).trans (congrFun (f17 55 (by decide)) 6)) ((f36 60 (by decide)).trans (f17 60 (by decide))) ((f36 61 (by decide)).trans (f17 61 (by decide))) hI102
      have I65 : jI103 σ34 := jI103_fr ((f37 9 (by decide)).trans (congrFun (f17 55 (by decide)) 9)) hI103
      have I66 : jI104 σ34 := jI104_fr ((f37 10 (by decide)).trans (congrFun (f17 55 (by decide)) 10)) ((f37 12 (by decide)).trans (congrFun (f17 55 (by decide)) 12)) ((f37 13 (by decide)).trans (congrFun (f17 55 (by decide)) 13)) ((f36 62 (by decide)).trans (f17 62 (by decide))) ((f36 67 (by decide)).trans (f17 67 (by decide))) hI104
      have I67 : jI105 σ34 := jI105_fr ((f37 15 (by decide)).trans (congrFun (f17 55 (by decide)) 15)) ((f36 65 (by decide)).trans (f17 65 (by decide))) hI105
      have I68 : jI107 σ34 := jI107_fr ((f37 12 (by decide)).trans (congrFun (f17 55 (by decide)) 12)) ((f37 47 (by decide)).trans (congrFun (f17 55 (by decide)) 47)) ((f36 80 (by decide)).trans (f17 80 (by decide))) hI107
      have I69 : jI109 σ34 := jI109_fr ((f37 50 (by decide)).trans (congrFun (f17 55 (by decide)) 50)) hI109
      have I70 : jI110 σ34 := jI110_fr ((f36 86 (by decide)).trans (f17 86 (by decide))) ((f36 87 (by decide)).trans (f17 87 (by decide))) hI110
      have I71 : jI111 σ34 := jI111_fr ((f36 79 (by decide)).trans (f17 79 (by decide))) hI111
      have I72 : jI119 σ34 := jI119_fr ((f36 68 (by decide)).trans (f17 68 (by decide))) hI119
      have p73 : jKept σ34 := jKept.fr ((f36 75 (by decide)).trans (f17 75 (by decide))) ((f36 76 (by decide)).trans (f17 76 (by decide))) ((f36 77 (by decide)).trans (f17 77 (by decide))) hs_jKept
      have p74 : jBook σ34 := jBook.fr ((f37 47 (by decide)).trans (congrFun (f17 55 (by decide)) 47)) ((f37 10 (by decide)).trans (congrFun (f17 55 (by decide)) 10)) ((f36 81 (by decide)).trans (f17 81 (by decide))) hs_jBook
      have z75 : (σ34 38 0).toInt = (σ15 38 0).toInt := (congrArg Int32.toInt (show σ34 38 0 = (σ15 38 0) from (congrFun (f36 38 (by decide)) 0)))
      have z76 : (σ34 38 1).toInt = (σ 38 1).toInt := (congrArg Int32.toInt (show σ34 38 1 = (σ 38 1) from ((congrFun (f36 38 (by decide)) 1).trans (f18 1 (by decide)))))
      have z77 : (σ34 55 55).toInt = (σ 55 55).toInt := (congrArg Int32.toInt (show σ34 55 55 = (σ 55 55) from ((f37 55 (by decide)).trans (congrFun (f17 55 (by decide)) 55))))
      exact ih x51 σ34 τ _ _ ls (by have h9 := tx51; omega) ⟨I52, I53, I54, I55, I56, I57, I58, I59, I60, I61, I62, I63, I64, I65, I66, I67, I38, I68, I69, I70, I71, I72, p73, p74, (by omega), (by omega), (show jKd (σ34 39) (σ34 70) (σ34 55 32).toInt by rw [show σ34 39 = σ 39 from ((f36 39 (by decide)).trans k30), show σ34 70 = σ 70 from (k49.trans (f17 70 (by decide))), show (σ34 55 32).toInt = (σ 55 32).toInt from by omega]; exact hr0), (show jTt (σ34 42) (σ34 85) (σ34 55 55).toInt by rw [show σ34 42 = σ 42 from ((f36 42 (by decide)).trans (f17 42 (by decide))), show σ34 85 = σ 85 from ((f36 85 (by decide)).trans (f17 85 (by decide))), show (σ34 55 55).toInt = (σ 55 55).toInt from by omega]; exact hr1)⟩ hP hS (lv_sub hl [0, 1, 2, 3] rfl)
    · obtain ⟨q82, k78, k79, k80, k81⟩ := h45
      have q82 := q82.symm
      subst q82
      exact absurd k80 k29
    · obtain ⟨q88, k83, k84, k85, k86, k87⟩ := h46
      exact absurd k86 k29
  · obtain ⟨q93, k89, k90, k91, k92⟩ := h26
    have q93 := q93.symm
    subst q93
    refine lv_pop hx hb dL_law_502 rfl ?_
    refine lv_aload_n hx hb dL_law_503 rfl (lv_at hl 1 rfl) ?_
    refine lv_aload_n hx hb dL_law_504 rfl (lv_at hl 3 rfl) ?_
    refine lv_iload_n hx hb dL_law_505 rfl (lv_at hl 0 rfl) ?_
    refine lv_iconst (v := 1) hx hb dL_law_506 (by decide) ?_
    refine lv_iadd hx hb dL_law_507 ?_
    refine jtopr ex9.symm ?_
    refine va_sld hx hb hX hbl hbA hS (jin tx9 (by omega) (by omega)) dL_law_508 ?_
    refine lv_aload_n hx hb dL_law_509 rfl (lv_at hl 3 rfl) ?_
    refine lv_iload_n hx hb dL_law_510 rfl (lv_at hl 0 rfl) ?_
    refine lv_iconst (v := 2) hx hb dL_law_511 (by decide) ?_
    refine lv_iadd hx hb dL_law_512 ?_
    refine jtopr ex11.symm ?_
    refine va_sld hx hb hX hbl hbA hS (jin tx11 (by omega) (by omega)) dL_law_513 ?_
    refine lv_aload_n hx hb dL_law_514 rfl (lv_at hl 3 rfl) ?_
    refine lv_iload_n hx hb dL_law_515 rfl (lv_at hl 0 rfl) ?_
    refine lv_iconst (v := 3) hx hb dL_law_516 (by decide) ?_
    refine lv_iadd hx hb dL_law_517 ?_
    refine jtopr ex13.symm ?_
    refine va_sld hx hb hX hbl hbA hS (jin tx13 (by omega) (by omega)) dL_law_518 ?_
    have I94 : jI106 σ15 := jI106_fr (congrFun (f17 55 (by decide)) 32) (f17 70 (by decide)) (f17 71 (by decide)) (f17 72 (by decide)) hI106
    have z95 : (σ15 55 32).toInt = (σ 55 32).toInt := (congrArg Int32.toInt (show σ15 55 32 = (σ 55 32) from (congrFun (f17 55 (by decide)) 32)))
    refine jcallV (As := [.int (xs x9.toNatClampNeg), .int (xs x11.toNatClampNeg), .int (xs x13.toNatClampNeg)]) (rest := []) ⟨hx, hb, hml, hown, hts⟩ hK hP hA hS hZ (c_X12_rule l D cI cL ad zz hJ σ15 τ (xs x9.toNatClampNeg) ((xs x9.toNatClampNeg).toInt) rfl (xs x11.toNatClampNeg) ((xs x11.toNatClampNeg).toInt) rfl (xs x13.toNatClampNeg) ((xs x13.toNatClampNeg).toInt) rfl I94) cw_RL_56 (jc_55 cI cL ad σ15 τ) rfl ⟨Nat.le_of_ble_eq_true rfl, Nat.le_of_ble_eq_true rfl⟩ rfl rfl rfl hl.1 rfl (Nat.le_of_ble_eq_true rfl) dL_law_519 ⟨Nat.le_of_ble_eq_true rfl, Nat.le_of_ble_eq_true rfl⟩ (fun r97 σ96 τ96 H locs h96 hP hS => ?_)
    obtain ⟨rfl, f98, f99, I100, h96⟩ := h96
    obtain ⟨i102, w103, w104, w105⟩ : (0 ≤ (σ96 55 32).toInt ∧ (σ96 55 32).toInt ≤ 20) ∧ (∀ k : Nat, k < 20 → 0 ≤ (σ96 70 k).toInt ∧ (σ96 70 k).toInt ≤ 6) ∧ (∀ k : Nat, k < 20 → 0 ≤ (σ96 71 k).toInt ∧ (σ96 71 k).toInt ≤ 8) ∧ (∀ k : Nat, k < 160 → 0 ≤ (σ96 72 k).toInt ∧ (σ96 72 k).toInt ≤ 3) := id I100
    rcases h96 with h106 | h107 | h108
    · obtain ⟨q112, k109, k110, k111⟩ := h106
      have q112 := q112.symm
      subst q112
      exact absurd k91 k110
    · obtain ⟨q117, k113, k114, k115, k116⟩ := h107
      have q117 := q117.symm
      subst q117
      refine lv_pop hx hb dL_law_522 rfl ?_
      refine lv_goto (tgt := 1357) hx hb dL_law_523 (by decide) ?_
      obtain ⟨x118, ex118⟩ : ∃ y : Int32, y = x0 + 6 := ⟨_, rfl⟩
      have tx118 : x118.toInt = x0.toInt + 6 := (jadd ex118 rfl jz_6 (by omega) (by omega)).trans (by omega)
      refine lv_iinc (v := x118) (lv' := [(3, .int x118), (2, .ref (ad 55)), (1, .ref (ad 0)), (0, .ref b)]) hx hb dL_law_1357 hl (k := 0) rfl (by rw [ex118]; rfl) (by decide) rfl (fun ls hl => ?_)
      refine lv_goto (tgt := 18) hx hb dL_law_1360 (by decide) ?_
      have I119 : jI2 σ96 := jI2_fr ((congrFun (f98 2 (by decide)) 0).trans (congrFun (f17 2 (by decide)) 0)) ((congrFun (f98 2 (by decide)) 1).trans (congrFun (f17 2 (by decide)) 1)) ((congrFun (f98 2 (by decide)) 2).trans (congrFun (f17 2 (by decide)) 2)) ((congrFun (f98 2 (by decide)) 3).trans (congrFun (f17 2 (by decide)) 3)) ((f98 6 (by decide)).trans (f17 6 (by decide))) hI2
      have I120 : jI9 σ96 := jI9_fr ((congrFun (f98 9 (by decide)) 0).trans (congrFun (f17 9 (by decide)) 0)) ((f98 10 (by decide)).trans (f17 10 (by decide))) ((f98 11 (by decide)).trans (f17 11 (by decide))) hI9
      have I121 : jI12 σ96 := jI12_fr ((congrFun (f98 12 (by decide)) 0).trans (congrFun (f17 12 (by decide)) 0)) ((f98 13 (by decide)).trans (f17 13 (by decide))) hI12
      have I122 : jI16 σ96 := jI16_fr ((congrFun (f98 16 (by decide)) 0).trans (congrFun (f17 16 (by decide)) 0)) ((congrFun (f98 16 (by decide)) 1).trans (congrFun (f17 16 (by decide)) 1)) ((congrFun (f98 16 (by decide)) 2).trans (congrFun (f17 16 (by decide)) 2)) ((f98 17 (by decide)).trans (f17 17 (by decide))) hI16
      have I123 : jI18 σ96 := jI18_fr ((congrFun (f98 18 (by decide)) 0).trans (congrFun (f17 18 (by decide)) 0)) ((f98 19 (by decide)).trans (f17 19 (by decide))) hI18
      have I124 : jI22 σ96 := jI22_fr ((congrFun (f98 22 (by decide)) 0).trans (congrFun (f17 22 (by decide)) 0)) ((f98 23 (by decide)).trans (f17 23 (by decide))) hI22
      have I125 : jI31 σ96 := jI31_fr ((congrFun (f98 31 (by decide)) 8).trans (congrFun (f17 31 (by decide)) 8)) ((f98 33 (by decide)).trans (f17 33 (by decide))) ((f98 36 (by decide)).trans (f17 36 (by decide))) hI31
      have I126 : jI38 σ96 := jI38_fr (congrFun (f98 38 (by decide)) 0) (congrFun (f98 38 (by decide)) 1) (f98 39 (by decide)) I19
      have I127 : jI43 σ96 := jI43_fr ((congrFun (f98 43 (by decide)) 8).trans (congrFun (f17 43 (by decide)) 8)) hI43
      have I128 : jI47 σ96 := jI47_fr ((congrFun (f98 47 (by decide)) 0).trans (congrFun (f17 47 (by decide)) 0)) ((f98 48 (by decide)).trans (f17 48 (by decide))) ((f98 49 (by decide)).trans (f17 49 (by decide))) hI47
      have I129 : jI50 σ96 := jI50_fr ((f98 52 (by decide)).trans (f17 52 (by decide))) hI50
      have I130 : jI101 σ96 := jI101_fr ((f99 4 (by decide)).trans (congrFun (f17 55 (by decide)) 4)) ((f99 5 (by decide)).trans (congrFun (f17 55 (by decide)) 5)) ((f98 56 (by decide)).trans (f17 56 (by decide))) ((f98 57 (by decide)).trans (f17 57 (by decide))) ((f98 58 (by decide)).trans (f17 58 (by decide))) ((f98 59 (by decide)).trans (f17 59 (by decide))) hI101
      have I131 : jI102 σ96 := jI102_fr ((f99 6 (by decide)).trans (congrFun (f17 55 (by decide)) 6)) ((f98 60 (by decide)).trans (f17 60 (by decide))) ((f98 61 (by decide)).trans (f17 61 (by decide))) hI102
      have I132 : jI103 σ96 := jI103_fr ((f99 9 (by decide)).trans (congrFun (f17 55 (by decide)) 9)) hI103
      have I133 : jI104 σ96 := jI104_fr ((f99 10 (by decide)).trans (congrFun (f17 55 (by decide)) 10)) ((f99 12 (by decide)).trans (congrFun (f17 55 (by decide)) 12)) ((f99 13 (by decide)).trans (congrFun (f17 55 (by decide)) 13)) ((f98 62 (by decide)).trans (f17 62 (by decide))) ((f98 67 (by decide)).trans (f17 67 (by decide))) hI104
      have I134 : jI105 σ96 := jI105_fr ((f99 15 (by decide)).trans (congrFun (f17 55 (by decide)) 15)) ((f98 65 (by decide)).trans (f17 65 (by decide))) hI105
      have I135 : jI107 σ96 := jI107_fr ((f99 12 (by decide)).trans (congrFun (f17 55 (by decide)) 12)) ((f99 47 (by decide)).trans (congrFun (f17 55 (by decide)) 47)) ((f98 80 (by decide)).trans (f17 80 (by decide))) hI107
      have I136 : jI109 σ96 := jI109_fr ((f99 50 (by decide)).trans (congrFun (f17 55 (by decide)) 50)) hI109
      have I137 : jI110 σ96 := jI110_fr ((f98 86 (by decide)).trans (f17 86 (by decide))) ((f98 87 (by decide)).trans (f17 87 (by decide))) hI110
      have I138 : jI111 σ96 := jI111_fr ((f98 79 (by decide)).trans (f17 79 (by decide))) hI111
      have I139 : jI119 σ96 := jI119_fr ((f98 68 (by decide)).trans (f17 68 (by decide))) hI119
      have p140 : jKept σ96 := jKept.fr ((f98 75 (by decide)).trans (f17 75 (by decide))) ((f98 76 (by decide)).trans (f17 76 (by decide))) ((f98 77 (by decide)).trans (f17 77 (by decide))) hs_jKept
      have p141 : jBook σ96 := jBook.fr ((f99 47 (by decide)).trans (congrFun (f17 55 (by decide)) 47)) ((f99 10 (by decide)).trans (congrFun (f17 55 (by decide)) 10)) ((f98 81 (by decide)).trans (f17 81 (by decide))) hs_jBook
      have z142 : (σ96 38 0).toInt = (σ15 38 0).toInt := (congrArg Int32.toInt (show σ96 38 0 = (σ15 38 0) from (congrFun (f98 38 (by decide)) 0)))
      have z143 : (σ96 38 1).toInt = (σ 38 1).toInt := (congrArg Int32.toInt (show σ96 38 1 = (σ 38 1) from ((congrFun (f98 38 (by decide)) 1).trans (f18 1 (by decide)))))
      have z144 : (σ96 55 55).toInt = (σ 55 55).toInt := (congrArg Int32.toInt (show σ96 55 55 = (σ 55 55) from ((f99 55 (by decide)).trans (congrFun (f17 55 (by decide)) 55))))
      exact ih x118 σ96 τ _ _ ls (by have h9 := tx118; omega) ⟨I119, I120, I121, I122, I123, I124, I125, I126, I127, I128, I129, I130, I131, I132, I133, I134, I100, I135, I136, I137, I138, I139, p140, p141, (by omega), (by omega), (show jKd (σ96 39) (σ96 70) (σ96 55 32).toInt by rw [show σ96 39 = σ 39 from ((f98 39 (by decide)).trans k92), show σ96 70 = σ 70 from (k116.trans (f17 70 (by decide))), show (σ96 55 32).toInt = (σ 55 32).toInt from by omega]; exact hr0), (show jTt (σ96 42) (σ96 85) (σ96 55 55).toInt by rw [show σ96 42 = σ 42 from ((f98 42 (by decide)).trans (f17 42 (by decide))), show σ96 85 = σ 85 from ((f98 85 (by decide)).trans (f17 85 (by decide))), show (σ96 55 55).toInt = (σ 55 55).toInt from by omega]; exact hr1)⟩ hP hS (lv_sub hl [0, 1, 2, 3] rfl)
    · obtain ⟨q150, k145, k146, k147, k148, k149⟩ := h108
      exact absurd (by omega : False) id
  · obtain ⟨q156, k151, k152, k153, k154, k155⟩ := h27
    refine lv_pop hx hb dL_law_502 rfl ?_
    refine lv_aload_n hx hb dL_law_503 rfl (lv_at hl 1 rfl) ?_
    refine lv_aload_n hx hb dL_law_504 rfl (lv_at hl 3 rfl) ?_
    refine lv_iload_n hx hb dL_law_505 rfl (lv_at hl 0 rfl) ?_
    refine lv_iconst (v := 1) hx hb dL_law_506 (by decide) ?_
    refine lv_iadd hx hb dL_law_507 ?_
    refine jtopr ex9.symm ?_
    refine va_sld hx hb hX hbl hbA hS (jin tx9 (by omega) (by omega)) dL_law_508 ?_
    refine lv_aload_n hx hb dL_law_509 rfl (lv_at hl 3 rfl) ?_
    refine lv_iload_n hx hb dL_law_510 rfl (lv_at hl 0 rfl) ?_
    refine lv_iconst (v := 2) hx hb dL_law_511 (by decide) ?_
    refine lv_iadd hx hb dL_law_512 ?_
    refine jtopr ex11.symm ?_
    refine va_sld hx hb hX hbl hbA hS (jin tx11 (by omega) (by omega)) dL_law_513 ?_
    refine lv_aload_n hx hb dL_law_514 rfl (lv_at hl 3 rfl) ?_
    refine lv_iload_n hx hb dL_law_515 rfl (lv_at hl 0 rfl) ?_
    refine lv_iconst (v := 3) hx hb dL_law_516 (by decide) ?_
    refine lv_iadd hx hb dL_law_517 ?_
    refine jtopr ex13.symm ?_
    refine va_sld hx hb hX hbl hbA hS (jin tx13 (by omega) (by omega)) dL_law_518 ?_
    have I157 : jI106 σ15 := jI106_fr (congrFun (f17 55 (by decide)) 32) (f17 70 (by decide)) (f17 71 (by decide)) (f17 72 (by decide)) hI106
    have z158 : (σ15 55 32).toInt = (σ 55 32).toInt := (congrArg Int32.toInt (show σ15 55 32 = (σ 55 32) from (congrFun (f17 55 (by decide)) 32)))
    refine jcallV (As := [.int (xs x9.toNatClampNeg), .int (xs x11.toNatClampNeg), .int (xs x13.toNatClampNeg)]) (rest := []) ⟨hx, hb, hml, hown, hts⟩ hK hP hA hS hZ (c_X12_rule l D cI cL ad zz hJ σ15 τ (xs x9.toNatClampNeg) ((xs x9.toNatClampNeg).toInt) rfl (xs x11.toNatClampNeg) ((xs x11.toNatClampNeg).toInt) rfl (xs x13.toNatClampNeg) ((xs x13.toNatClampNeg).toInt) rfl I157) cw_RL_56 (jc_55 cI cL ad σ15 τ) rfl ⟨Nat.le_of_ble_eq_true rfl, Nat.le_of_ble_eq_true rfl⟩ rfl rfl rfl hl.1 rfl (Nat.le_of_ble_eq_true rfl) dL_law_519 ⟨Nat.le_of_ble_eq_true rfl, Nat.le_of_ble_eq_true rfl⟩ (fun r160 σ159 τ159 H locs h159 hP hS => ?_)
    obtain ⟨rfl, f161, f162, I163, h159⟩ := h159
    obtain ⟨i165, w166, w167, w168⟩ : (0 ≤ (σ159 55 32).toInt ∧ (σ159 55 32).toInt ≤ 20) ∧ (∀ k : Nat, k < 20 → 0 ≤ (σ159 70 k).toInt ∧ (σ159 70 k).toInt ≤ 6) ∧ (∀ k : Nat, k < 20 → 0 ≤ (σ159 71 k).toInt ∧ (σ159 71 k).toInt ≤ 8) ∧ (∀ k : Nat, k < 160 → 0 ≤ (σ159 72 k).toInt ∧ (σ159 72 k).toInt ≤ 3) := id I163
    rcases h159 with h169 | h170 | h171
    · obtain ⟨q175, k172, k173, k174⟩ := h169
      have q175 := q175.symm
      subst q175
      exact absurd k154 k173
    · obtain ⟨q180, k176, k177, k178, k179⟩ := h170
      exact absurd (by omega : False) id
    · obtain ⟨q186, k181, k182, k183, k184, k185⟩ := h171
      refine lv_pop hx hb dL_law_522 rfl ?_
      refine lv_goto (tgt := 1357) hx hb dL_law_523 (by decide) ?_
      obtain ⟨x187, ex187⟩ : ∃ y : Int32, y = x0 + 6 := ⟨_, rfl⟩
      have tx187 : x187.toInt = x0.toInt + 6 := (jadd ex187 rfl jz_6 (by omega) (by omega)).trans (by omega)
      refine lv_iinc (v := x187) (lv' := [(3, .int x187), (2, .ref (ad 55)), (1, .ref (ad 0)), (0, .ref b)]) hx hb dL_law_1357 hl (k := 0) rfl (by rw [ex187]; rfl) (by decide) rfl (fun ls hl => ?_)
      refine lv_goto (tgt := 18) hx hb dL_law_1360 (by decide) ?_
      have I188 : jI2 σ159 := jI2_fr ((congrFun (f161 2 (by decide)) 0).trans (congrFun (f17 2 (by decide)) 0)) ((congrFun (f161 2 (by decide)) 1).trans (congrFun (f17 2 (by decide)) 1)) ((congrFun (f161 2 (by decide)) 2).trans (congrFun (f17 2 (by decide)) 2)) ((congrFun (f161 2 (by decide)) 3).trans (congrFun (f17 2 (by decide)) 3)) ((f161 6 (by decide)).trans (f17 6 (by decide))) hI2
      have I189 : jI9 σ159 := jI9_fr ((congrFun (f161 9 (by decide)) 0).trans (congrFun (f17 9 (by decide)) 0)) ((f161 10 (by decide)).trans (f17 10 (by decide))) ((f161 11 (by decide)).trans (f17 11 (by decide))) hI9
      have I190 : jI12 σ159 := jI12_fr ((congrFun (f161 12 (by decide)) 0).trans (congrFun (f17 12 (by decide)) 0)) ((f161 13 (by decide)).trans (f17 13 (by decide))) hI12
      have I191 : jI16 σ159 := jI16_fr ((congrFun (f161 16 (by decide)) 0).trans (congrFun (f17 16 (by decide)) 0)) ((congrFun (f161 16 (by decide)) 1).trans (congrFun (f17 16 (by decide)) 1)) ((congrFun (f161 16 (by decide)) 2).trans (congrFun (f17 16 (by decide)) 2)) ((f161 17 (by decide)).trans (f17 17 (by decide))) hI16
      have I192 : jI18 σ159 := jI18_fr ((congrFun (f161 18 (by decide)) 0).trans (congrFun (f17 18 (by decide)) 0)) ((f161 19 (by decide)).trans (f17 19 (by decide))) hI18
      have I193 : jI22 σ159 := jI22_fr ((congrFun (f161 22 (by decide)) 0).trans (congrFun (f17 22 (by decide)) 0)) ((f161 23 (by decide)).trans (f17 23 (by decide))) hI22
      have I194 : jI31 σ159 := jI31_fr ((congrFun (f161 31 (by decide)) 8).trans (congrFun (f17 31 (by decide)) 8)) ((f161 33 (by decide)).trans (f17 33 (by decide))) ((f161 36 (by decide)).trans (f17 36 (by decide))) hI31
      have I195 : jI38 σ159 := jI38_fr (congrFun (f161 38 (by decide)) 0) (congrFun (f161 38 (by decide)) 1) (f161 39 (by decide)) I19
      have I196 : jI43 σ159 := jI43_fr ((congrFun (f161 43 (by decide)) 8).trans (congrFun (f17 43 (by decide)) 8)) hI43
      have I197 : jI47 σ159 := jI47_fr ((congrFun (f161 47 (by decide)) 0).trans (congrFun (f17 47 (by decide)) 0)) ((f161 48 (by decide)).trans (f17 48 (by decide))) ((f161 49 (by decide)).trans (f17 49 (by decide))) hI47
      have I198 : jI50 σ159 := jI50_fr ((f161 52 (by decide)).trans (f17 52 (by decide))) hI50
      have I199 : jI101 σ159 := jI101_fr ((f162 4 (by decide)).trans (congrFun (f17 55 (by decide)) 4)) ((f162 5 (by decide)).trans (congrFun (f17 55 (by decide)) 5)) ((f161 56 (by decide)).trans (f17 56 (by decide))) ((f161 57 (by decide)).trans (f17 57 (by decide))) ((f161 58 (by decide)).trans (f17 58 (by decide))) ((f161 59 (by decide)).trans (f17 59 (by decide))) hI101
      have I200 : jI102 σ159 := jI102_fr ((f162 6 (by decide)).trans (congrFun (f17 55 (by decide)) 6)) ((f161 60 (by decide)).trans (f17 60 (by decide))) ((f161 61 (by decide)).trans (f17 61 (by decide))) hI102
      have I201 : jI103 σ159 := jI103_fr ((f162 9 (by decide)).trans (congrFun (f17 55 (by decide)) 9)) hI103
      have I202 : jI104 σ159 := jI104_fr ((f162 10 (by decide)).trans (congrFun (f17 55 (by decide)) 10)) ((f162 12 (by decide)).trans (congrFun (f17 55 (by decide)) 12)) ((f162 13 (by decide)).trans (congrFun (f17 55 (by decide)) 13)) ((f161 62 (by decide)).trans (f17 62 (by decide))) ((f161 67 (by decide)).trans (f17 67 (by decide))) hI104
      have I203 : jI105 σ159 := jI105_fr ((f162 15 (by decide)).trans (congrFun (f17 55 (by decide)) 15)) ((f161 65 (by decide)).trans (f17 65 (by decide))) hI105
      have I204 : jI107 σ159 := jI107_fr ((f162 12 (by decide)).trans (congrFun (f17 55 (by decide)) 12)) ((f162 47 (by decide)).trans (congrFun (f17 55 (by decide)) 47)) ((f161 80 (by decide)).trans (f17 80 (by decide))) hI107
      have I205 : jI109 σ159 := jI109_fr ((f162 50 (by decide)).trans (congrFun (f17 55 (by decide)) 50)) hI109
      have I206 : jI110 σ159 := jI110_fr ((f161 86 (by decide)).trans (f17 86 (by decide))) ((f161 87 (by decide)).trans (f17 87 (by decide))) hI110
      have I207 : jI111 σ159 := jI111_fr ((f161 79 (by decide)).trans (f17 79 (by decide))) hI111
      have I208 : jI119 σ159 := jI119_fr ((f161 68 (by decide)).trans (f17 68 (by decide))) hI119
      have p209 : jKept σ159 := jKept.fr ((f161 75 (by decide)).trans (f17 75 (by decide))) ((f161 76 (by decide)).trans (f17 76 (by decide))) ((f161 77 (by decide)).trans (f17 77 (by decide))) hs_jKept
      have p210 : jBook σ159 := jBook.fr ((f162 47 (by decide)).trans (congrFun (f17 55 (by decide)) 47)) ((f162 10 (by decide)).trans (congrFun (f17 55 (by decide)) 10)) ((f161 81 (by decide)).trans (f17 81 (by decide))) hs_jBook
      have z211 : (σ159 38 0).toInt = (σ15 38 0).toInt := (congrArg Int32.toInt (show σ159 38 0 = (σ15 38 0) from (congrFun (f161 38 (by decide)) 0)))
      have z212 : (σ159 38 1).toInt = (σ 38 1).toInt := (congrArg Int32.toInt (show σ159 38 1 = (σ 38 1) from ((congrFun (f161 38 (by decide)) 1).trans (f18 1 (by decide)))))
      have z213 : (σ159 55 55).toInt = (σ 55 55).toInt := (congrArg Int32.toInt (show σ159 55 55 = (σ 55 55) from ((f162 55 (by decide)).trans (congrFun (f17 55 (by decide)) 55))))
      rw [show (σ 38 0).toInt = (σ 55 32).toInt from by omega] at k155
      rw [show (σ15 55 32).toInt = (σ 55 32).toInt from by omega, show σ15 70 = σ 70 from (f17 70 (by decide))] at k185
      have p214 : jKd (σ159 39) (σ159 70) (σ159 55 32).toInt := hr0.on (by rw [show σ159 39 = σ15 39 from (f161 39 (by decide))]; exact k155) k185 (by omega) (by omega)
      exact ih x187 σ159 τ _ _ ls (by have h9 := tx187; omega) ⟨I188, I189, I190, I191, I192, I193, I194, I195, I196, I197, I198, I199, I200, I201, I202, I203, I163, I204, I205, I206, I207, I208, p209, p210, (by omega), (by omega), p214, (show jTt (σ159 42) (σ159 85) (σ159 55 55).toInt by rw [show σ159 42 = σ 42 from ((f161 42 (by decide)).trans (f17 42 (by decide))), show σ159 85 = σ 85 from ((f161 85 (by decide)).trans (f17 85 (by decide))), show (σ159 55 55).toInt = (σ 55 55).toInt from by omega]; exact hr1)⟩ hP hS (lv_sub hl [0, 1, 2, 3] rfl)
set_option maxHeartbeats 4000000 in
set_option maxRecDepth 100000 in
theorem law_case_10 {p : Program} {e : Env} {s : State} {m : MethodId} {below : List Frame} {meth : Method} {c : Code} (l : Launch) {b L : Nat} {xs : Nat → Int32} {D : va_G} {cI cL : ClassId} {ad zz : Nat → Nat} (C0 : lw_At p s m meth c b L xs) (hJ : jD ad) (hA : ∀ q, jA ad q → s.heap.size ≤ q) (hK : jK D cI cL s) (hZ : jZ zz (fun q : Nat => s.heap.size ≤ q) s s.heap) {x0 : Int32} (hx0 : 0 ≤ x0.toInt) (hxL : x0.toInt + 6 ≤ (L : Int)) (hL : L ≤ 384) {σ : Nat → Nat → Int32} {τ : Nat → Nat → Int64} {H : Heap} {locs : List Loc} (hS : va_S (fun q : Nat => s.heap.size ≤ q) s.heap H locs) {ls : Array Slot} (hAll : jAll σ τ) (hP : jH D cI cL ad σ τ H) (hl : lv_has ls 4 [(3, .int x0), (2, .ref (ad 55)), (1, .ref (ad 0)), (0, .ref b)]) (ih : ∀ (x1 : Int32) (σ : Nat → Nat → Int32) (τ : Nat → Nat → Int64) (H : Heap) (locs : List Loc) (ls : Array Slot), x1.toInt = x0.toInt + 6 → jAll σ τ → jH D cI cL ad σ τ H → va_S (fun q : Nat => s.heap.size ≤ q) s.heap H locs → lv_has ls 4 [(3, .int x1), (2, .ref (ad 55)), (1, .ref (ad 0)), (0, .ref b)] → W p l e room_1 s m #[Value.ref b] below meth c H locs 90 348600 (lw_Z below #[Value.ref b] s) (F0 m 18 ls [])) : W p l e room_1 s m #[Value.ref b] below meth c H locs 90 348600 (lw_Z below #[Value.ref b] s) (F0 m 526 ls []) := by
  obtain ⟨hx, hb, hr, hml, hown, hts0, hX, hbl, hlocks, hgv⟩ := C0
  have hts : ∀ w ∈ wsL_law, w.before #[Value.ref b] s = true := fun w h => hts0 w (wsL_law_in w h)
  have hbA : ¬ (fun q : Nat => s.heap.size ≤ q) b := Nat.not_le.mpr hbl
  have hown : s.vm.findClass RL = some m.cls := hown
  obtain ⟨hI2, hI9, hI12, hI16, hI18, hI22, hI31, hI38, hI43, hI47, hI50, hI101, hI102, hI103, hI104, hI105, hI106, hI107, hI109, hI110, hI111, hI119, hs_jKept, hs_jBook, ht0, ht1, hr0, hr1⟩ := hAll
  have hL9 : (L : Int) ≤ 384 := by omega
  obtain ⟨i1, i2, w3⟩ : (0 ≤ (σ 38 0).toInt ∧ (σ 38 0).toInt ≤ 20) ∧ (0 ≤ (σ 38 1).toInt ∧ (σ 38 1).toInt ≤ 1000) ∧ (∀ k : Nat, k < 20 → 0 ≤ (σ 39 k).toInt ∧ (σ 39 k).toInt ≤ 6) := id hI38
  obtain ⟨i4, w5, w6, w7⟩ : (0 ≤ (σ 55 32).toInt ∧ (σ 55 32).toInt ≤ 20) ∧ (∀ k : Nat, k < 20 → 0 ≤ (σ 70 k).toInt ∧ (σ 70 k).toInt ≤ 6) ∧ (∀ k : Nat, k < 20 → 0 ≤ (σ 71 k).toInt ∧ (σ 71 k).toInt ≤ 8) ∧ (∀ k : Nat, k < 160 → 0 ≤ (σ 72 k).toInt ∧ (σ 72 k).toInt ≤ 3) := id hI106
  refine lv_aload_n hx hb dL_law_526 rfl (lv_at hl 2 rfl) ?_
  refine lv_aload_n hx hb dL_law_527 rfl (lv_at hl 3 rfl) ?_
  refine lv_iload_n hx hb dL_law_528 rfl (lv_at hl 0 rfl) ?_
  refine lv_iconst (v := 1) hx hb dL_law_529 (by decide) ?_
  have g8 := jrg (rfl : x0.toInt = x0.toInt)
  refine lv_iadd hx hb dL_law_530 ?_
  refine lv_topi (fun x9 ex9 => ?_)
  have tx9 : x9.toInt = x0.toInt + 1 := (jadd ex9 rfl jz_1 (by omega) (by omega)).trans (by omega)
  refine va_sld hx hb hX hbl hbA hS (jin tx9 (by omega) (by omega)) dL_law_531 ?_
  have g10 := jrg (rfl : (xs x9.toNatClampNeg).toInt = (xs x9.toNatClampNeg).toInt)
  refine jcallV (As := [.int (xs x9.toNatClampNeg)]) (rest := []) ⟨hx, hb, hml, hown, hts⟩ hK hP hA hS hZ (c_X11_puts l D cI cL ad zz hJ σ τ (xs x9.toNatClampNeg) ((xs x9.toNatClampNeg).toInt) rfl hI2 hI16 hI18 hI22 hI31 hI38 hI47) cw_RL_57 (jc_0 cI cL ad σ τ) rfl ⟨Nat.le_of_ble_eq_true rfl, Nat.le_of_ble_eq_true rfl⟩ rfl rfl rfl hl.1 rfl (Nat.le_of_ble_eq_true rfl) dL_law_532 ⟨Nat.le_of_ble_eq_true rfl, Nat.le_of_ble_eq_true rfl⟩ (fun r12 σ11 τ11 H locs h11 hP hS => ?_)
  obtain ⟨rfl, f13, f14, I15, h11⟩ := h11
  refine lv_pop hx hb dL_law_535 rfl ?_
  refine lv_aload_n hx hb dL_law_536 rfl (lv_at hl 1 rfl) ?_
  refine lv_aload_n hx hb dL_law_537 rfl (lv_at hl 3 rfl) ?_
  refine lv_iload_n hx hb dL_law_538 rfl (lv_at hl 0 rfl) ?_
  refine lv_iconst (v := 1) hx hb dL_law_539 (by decide) ?_
  refine lv_iadd hx hb dL_law_540 ?_
  refine jtopr ex9.symm ?_
  refine va_sld hx hb hX hbl hbA hS (jin tx9 (by omega) (by omega)) dL_law_541 ?_
  have I17 : jI101 σ11 := jI101_fr (congrFun (f13 55 (by decide)) 4) (congrFun (f13 55 (by decide)) 5) (f13 56 (by decide)) (f13 57 (by decide)) (f13 58 (by decide)) (f13 59 (by decide)) hI101
  have I18 : jI102 σ11 := jI102_fr (congrFun (f13 55 (by decide)) 6) (f13 60 (by decide)) (f13 61 (by decide)) hI102
  have I19 : jI103 σ11 := jI103_fr (congrFun (f13 55 (by decide)) 9) hI103
  have I20 : jI104 σ11 := jI104_fr (congrFun (f13 55 (by decide)) 10) (congrFun (f13 55 (by decide)) 12) (congrFun (f13 55 (by decide)) 13) (f13 62 (by decide)) (f13 67 (by decide)) hI104
  have I21 : jI105 σ11 := jI105_fr (congrFun (f13 55 (by decide)) 15) (f13 65 (by decide)) hI105
  have I22 : jI106 σ11 := jI106_fr (congrFun (f13 55 (by decide)) 32) (f13 70 (by decide)) (f13 71 (by decide)) (f13 72 (by decide)) hI106
  have I23 : jI107 σ11 := jI107_fr (congrFun (f13 55 (by decide)) 12) (congrFun (f13 55 (by decide)) 47) (f13 80 (by decide)) hI107
  have I24 : jI119 σ11 := jI119_fr (f13 68 (by decide)) hI119
  have p25 : jKept σ11 := jKept.fr (f13 75 (by decide)) (f13 76 (by decide)) (f13 77 (by decide)) hs_jKept
  have p26 : jBook σ11 := jBook.fr (congrFun (f13 55 (by decide)) 47) (congrFun (f13 55 (by decide)) 10) (f13 81 (by decide)) hs_jBook
  refine jcallV (As := [.int (xs x9.toNatClampNeg)]) (rest := []) ⟨hx, hb, hml, hown, hts⟩ hK hP hA hS hZ (c_X12_puts l D cI cL ad zz hJ σ11 τ (xs x9.toNatClampNeg) ((xs x9.toNatClampNeg).toInt) rfl I17 I18 I19 I20 I21 I22 I23 I24 p25 p26) cw_RL_60 (jc_55 cI cL ad σ11 τ) rfl ⟨Nat.le_of_ble_eq_true rfl, Nat.le_of_ble_eq_true rfl⟩ rfl rfl rfl hl.1 rfl (Nat.le_of_ble_eq_true rfl) dL_law_542 ⟨Nat.le_of_ble_eq_true rfl, Nat.le_of_ble_eq_true rfl⟩ (fun r28 σ27 τ27 H locs h27 hP hS => ?_)
  obtain ⟨rfl, f29, f30, I31, p32, p33, h27⟩ := h27
  refine lv_pop hx hb dL_law_545 rfl ?_
  refine lv_goto (tgt := 1357) hx hb dL_law_546 (by decide) ?_
  obtain ⟨x35, ex35⟩ : ∃ y : Int32, y = x0 + 6 := ⟨_, rfl⟩
  have tx35 : x35.toInt = x0.toInt + 6 := (jadd ex35 rfl jz_6 (by omega) (by omega)).trans (by omega)
  refine lv_iinc (v := x35) (lv' := [(3, .int x35), (2, .ref (ad 55)), (1, .ref (ad 0)), (0, .ref b)]) hx hb dL_law_1357 hl (k := 0) rfl (by rw [ex35]; rfl) (by decide) rfl (fun ls hl => ?_)
  refine lv_goto (tgt := 18) hx hb dL_law_1360 (by decide) ?_
  have I36 : jI2 σ27 := jI2_fr ((congrFun (f29 2 (by decide)) 0).trans (congrFun (f13 2 (by decide)) 0)) ((congrFun (f29 2 (by decide)) 1).trans (congrFun (f13 2 (by decide)) 1)) ((congrFun (f29 2 (by decide)) 2).trans (congrFun (f13 2 (by decide)) 2)) ((congrFun (f29 2 (by decide)) 3).trans (congrFun (f13 2 (by decide)) 3)) ((f29 6 (by decide)).trans (f13 6 (by decide))) hI2
  have I37 : jI9 σ27 := jI9_fr ((congrFun (f29 9 (by decide)) 0).trans (congrFun (f13 9 (by decide)) 0)) ((f29 10 (by decide)).trans (f13 10 (by decide))) ((f29 11 (by decide)).trans (f13 11 (by decide))) hI9
  have I38 : jI12 σ27 := jI12_fr ((congrFun (f29 12 (by decide)) 0).trans (congrFun (f13 12 (by decide)) 0)) ((f29 13 (by decide)).trans (f13 13 (by decide))) hI12
  have I39 : jI16 σ27 := jI16_fr ((congrFun (f29 16 (by decide)) 0).trans (congrFun (f13 16 (by decide)) 0)) ((congrFun (f29 16 (by decide)) 1).trans (congrFun (f13 16 (by decide)) 1)) ((congrFun (f29 16 (by decide)) 2).trans (congrFun (f13 16 (by decide)) 2)) ((f29 17 (by decide)).trans (f13 17 (by decide))) hI16
  have I40 : jI18 σ27 := jI18_fr ((congrFun (f29 18 (by decide)) 0).trans (congrFun (f13 18 (by decide)) 0)) ((f29 19 (by decide)).trans (f13 19 (by decide))) hI18
  have I41 : jI22 σ27 := jI22_fr ((congrFun (f29 22 (by decide)) 0).trans (congrFun (f13 22 (by decide)) 0)) ((f29 23 (by decide)).trans (f13 23 (by decide))) hI22
  have I42 : jI31 σ27 := jI31_fr (congrFun (f29 31 (by decide)) 8) (f29 33 (by decide)) (f29 36 (by decide)) I15
  have I43 : jI38 σ27 := jI38_fr ((congrFun (f29 38 (by decide)) 0).trans (congrFun (f13 38 (by decide)) 0)) ((congrFun (f29 38 (by decide)) 1).trans (congrFun (f13 38 (by decide)) 1)) ((f29 39 (by decide)).trans (f13 39 (by decide))) hI38
  have I44 : jI43 σ27 := jI43_fr ((congrFun (f29 43 (by decide)) 8).trans (congrFun (f13 43 (by decide)) 8)) hI43
  have I45 : jI47 σ27 := jI47_fr ((congrFun (f29 47 (by decide)) 0).trans (congrFun (f13 47 (by decide)) 0)) ((f29 48 (by decide)).trans (f13 48 (by decide))) ((f29 49 (by decide)).trans (f13 49 (by decide))) hI47
  have I46 : jI50 σ27 := jI50_fr ((f29 52 (by decide)).trans (f13 52 (by decide))) hI50
  have I47 : jI101 σ27 := jI101_fr (f30 4 (by decide)) (f30 5 (by decide)) (f29 56 (by decide)) (f29 57 (by decide)) (f29 58 (by decide)) (f29 59 (by decide)) I17
  have I48 : jI102 σ27 := jI102_fr (f30 6 (by decide)) (f29 60 (by decide)) (f29 61 (by decide)) I18
  have I49 : jI103 σ27 := jI103_fr (f30 9 (by decide)) I19
  have I50 : jI104 σ27 := jI104_fr (f30 10 (by decide)) (f30 12 (by decide)) (f30 13 (by decide)) (f29 62 (by decide)) (f29 67 (by decide)) I20
  have I51 : jI105 σ27 := jI105_fr (f30 15 (by decide)) (f29 65 (by decide)) I21
  have I52 : jI106 σ27 := jI106_fr (f30 32 (by decide)) (f29 70 (by decide)) (f29 71 (by decide)) (f29 72 (by decide)) I22
  have I53 : jI107 σ27 := jI107_fr (f30 12 (by decide)) (f30 47 (by decide)) (f29 80 (by decide)) I23
  have I54 : jI109 σ27 := jI109_fr ((f30 50 (by decide)).trans (congrFun (f13 55 (by decide)) 50)) hI109
  have I55 : jI110 σ27 := jI110_fr ((f29 86 (by decide)).trans (f13 86 (by decide))) ((f29 87 (by decide)).trans (f13 87 (by decide))) hI110
  have I56 : jI111 σ27 := jI111_fr ((f29 79 (by decide)).trans (f13 79 (by decide))) hI111
  have z57 : (σ27 38 0).toInt = (σ 38 0).toInt := (congrArg Int32.toInt (show σ27 38 0 = (σ 38 0) from ((congrFun (f29 38 (by decide)) 0).trans (congrFun (f13 38 (by decide)) 0))))
  have z58 : (σ27 55 32).toInt = (σ 55 32).toInt := (congrArg Int32.toInt (show σ27 55 32 = (σ 55 32) from ((f30 32 (by decide)).trans (congrFun (f13 55 (by decide)) 32))))
  have z59 : (σ27 38 1).toInt = (σ 38 1).toInt := (congrArg Int32.toInt (show σ27 38 1 = (σ 38 1) from ((congrFun (f29 38 (by decide)) 1).trans (congrFun (f13 38 (by decide)) 1))))
  have z60 : (σ27 55 55).toInt = (σ 55 55).toInt := (congrArg Int32.toInt (show σ27 55 55 = (σ 55 55) from ((f30 55 (by decide)).trans (congrFun (f13 55 (by decide)) 55))))
  exact ih x35 σ27 τ _ _ ls (by have h9 := tx35; omega) ⟨I36, I37, I38, I39, I40, I41, I42, I43, I44, I45, I46, I47, I48, I49, I50, I51, I52, I53, I54, I55, I56, I31, p32, p33, (by omega), (by omega), (show jKd (σ27 39) (σ27 70) (σ27 55 32).toInt by rw [show σ27 39 = σ 39 from ((f29 39 (by decide)).trans (f13 39 (by decide))), show σ27 70 = σ 70 from ((f29 70 (by decide)).trans (f13 70 (by decide))), show (σ27 55 32).toInt = (σ 55 32).toInt from by omega]; exact hr0), (show jTt (σ27 42) (σ27 85) (σ27 55 55).toInt by rw [show σ27 42 = σ 42 from ((f29 42 (by decide)).trans (f13 42 (by decide))), show σ27 85 = σ 85 from ((f29 85 (by decide)).trans (f13 85 (by decide))), show (σ27 55 55).toInt = (σ 55 55).toInt from by omega]; exact hr1)⟩ hP hS (lv_sub hl [0, 1, 2, 3] rfl)
set_option maxHeartbeats 4000000 in
set_option maxRecDepth 100000 in
theorem law_case_11 {p : Program} {e : Env} {s : State} {m : MethodId} {below : List Frame} {meth : Method} {c : Code} (l : Launch) {b L : Nat} {xs : Nat → Int32} {D : va_G} {cI cL : ClassId} {ad zz : Nat → Nat} (C0 : lw_At p s m meth c b L xs) (hJ : jD ad) (hA : ∀ q, jA ad q → s.heap.size ≤ q) (hK : jK D cI cL s) (hZ : jZ zz (fun q : Nat => s.heap.size ≤ q) s s.heap) {x0 : Int32} (hx0 : 0 ≤ x0.toInt) (hxL : x0.toInt + 6 ≤ (L : Int)) (hL : L ≤ 384) {σ : Nat → Nat → Int32} {τ : Nat → Nat → Int64} {H : Heap} {locs : List Loc} (hS : va_S (fun q : Nat => s.heap.size ≤ q) s.heap H locs) {ls : Array Slot} (hAll : jAll σ τ) (hP : jH D cI cL ad σ τ H) (hl : lv_has ls 4 [(3, .int x0), (2, .ref (ad 55)), (1, .ref (ad 0)), (0, .ref b)]) (ih : ∀ (x1 : Int32) (σ : Nat → Nat → Int32) (τ : Nat → Nat → Int64) (H : Heap) (locs : List Loc) (ls : Array Slot), x1.toInt = x0.toInt + 6 → jAll σ τ → jH D cI cL ad σ τ H → va_S (fun q : Nat => s.heap.size ≤ q) s.heap H locs → lv_has ls 4 [(3, .int x1), (2, .ref (ad 55)), (1, .ref (ad 0)), (0, .ref b)] → W p l e room_1 s m #[Value.ref b] below meth c H locs 90 348600 (lw_Z below #[Value.ref b] s) (F0 m 18 ls [])) : W p l e room_1 s m #[Value.ref b] below meth c H locs 90 348600 (lw_Z below #[Value.ref b] s) (F0 m 549 ls []) := by
  obtain ⟨hx, hb, hr, hml, hown, hts0, hX, hbl, hlocks, hgv⟩ := C0
  have hts : ∀ w ∈ wsL_law, w.before #[Value.ref b] s = true := fun w h => hts0 w (wsL_law_in w h)
  have hbA : ¬ (fun q : Nat => s.heap.size ≤ q) b := Nat.not_le.mpr hbl
  have hown : s.vm.findClass RL = some m.cls := hown
  obtain ⟨hI2, hI9, hI12, hI16, hI18, hI22, hI31, hI38, hI43, hI47, hI50, hI101, hI102, hI103, hI104, hI105, hI106, hI107, hI109, hI110, hI111, hI119, hs_jKept, hs_jBook, ht0, ht1, hr0, hr1⟩ := hAll
  have hL9 : (L : Int) ≤ 384 := by omega
  obtain ⟨i1, i2, w3⟩ : (0 ≤ (σ 38 0).toInt ∧ (σ 38 0).toInt ≤ 20) ∧ (0 ≤ (σ 38 1).toInt ∧ (σ 38 1).toInt ≤ 1000) ∧ (∀ k : Nat, k < 20 → 0 ≤ (σ 39 k).toInt ∧ (σ 39 k).toInt ≤ 6) := id hI38
  obtain ⟨i4, w5, w6, w7⟩ : (0 ≤ (σ 55 32).toInt ∧ (σ 55 32).toInt ≤ 20) ∧ (∀ k : Nat, k < 20 → 0 ≤ (σ 70 k).toInt ∧ (σ 70 k).toInt ≤ 6) ∧ (∀ k : Nat, k < 20 → 0 ≤ (σ 71 k).toInt ∧ (σ 71 k).toInt ≤ 8) ∧ (∀ k : Nat, k < 160 → 0 ≤ (σ 72 k).toInt ∧ (σ 72 k).toInt ≤ 3) := id hI106
  refine lv_aload_n hx hb dL_law_549 rfl (lv_at hl 2 rfl) ?_
  refine lv_aload_n hx hb dL_law_550 rfl (lv_at hl 3 rfl) ?_
  refine lv_iload_n hx hb dL_law_551 rfl (lv_at hl 0 rfl) ?_
  refine lv_iconst (v := 1) hx hb dL_law_552 (by decide) ?_
  have g8 := jrg (rfl : x0.toInt = x0.toInt)
  refine lv_iadd hx hb dL_law_553 ?_
  refine lv_topi (fun x9 ex9 => ?_)
  have tx9 : x9.toInt = x0.toInt + 1 := (jadd ex9 rfl jz_1 (by omega) (by omega)).trans (by omega)
  refine va_sld hx hb hX hbl hbA hS (jin tx9 (by omega) (by omega)) dL_law_554 ?_
  have g10 := jrg (rfl : (xs x9.toNatClampNeg).toInt = (xs x9.toNatClampNeg).toInt)
  refine jcallV (As := [.int (xs x9.toNatClampNeg)]) (rest := []) ⟨hx, hb, hml, hown, hts⟩ hK hP hA hS hZ (c_X11_mean l D cI cL ad zz hJ σ τ (xs x9.toNatClampNeg) ((xs x9.toNatClampNeg).toInt) rfl hI2 hI16 hI18 hI22 hI31 hI38) cw_RL_61 (jc_0 cI cL ad σ τ) rfl ⟨Nat.le_of_ble_eq_true rfl, Nat.le_of_ble_eq_true rfl⟩ rfl rfl rfl hl.1 rfl (Nat.le_of_ble_eq_true rfl) dL_law_555 ⟨Nat.le_of_ble_eq_true rfl, Nat.le_of_ble_eq_true rfl⟩ (fun r12 σ11 τ11 H locs h11 hP hS => ?_)
  obtain ⟨rfl, f13, f14, I15, h11⟩ := h11
  refine lv_pop hx hb dL_law_558 rfl ?_
  refine lv_aload_n hx hb dL_law_559 rfl (lv_at hl 1 rfl) ?_
  refine lv_aload_n hx hb dL_law_560 rfl (lv_at hl 3 rfl) ?_
  refine lv_iload_n hx hb dL_law_561 rfl (lv_at hl 0 rfl) ?_
  refine lv_iconst (v := 1) hx hb dL_law_562 (by decide) ?_
  refine lv_iadd hx hb dL_law_563 ?_
  refine jtopr ex9.symm ?_
  refine va_sld hx hb hX hbl hbA hS (jin tx9 (by omega) (by omega)) dL_law_564 ?_
  have I17 : jI101 σ11 := jI101_fr (congrFun (f13 55 (by decide)) 4) (congrFun (f13 55 (by decide)) 5) (f13 56 (by decide)) (f13 57 (by decide)) (f13 58 (by decide)) (f13 59 (by decide)) hI101
  have I18 : jI102 σ11 := jI102_fr (congrFun (f13 55 (by decide)) 6) (f13 60 (by decide)) (f13 61 (by decide)) hI102
  have I19 : jI103 σ11 := jI103_fr (congrFun (f13 55 (by decide)) 9) hI103
  have I20 : jI104 σ11 := jI104_fr (congrFun (f13 55 (by decide)) 10) (congrFun (f13 55 (by decide)) 12) (congrFun (f13 55 (by decide)) 13) (f13 62 (by decide)) (f13 67 (by decide)) hI104
  have I21 : jI105 σ11 := jI105_fr (congrFun (f13 55 (by decide)) 15) (f13 65 (by decide)) hI105
  have I22 : jI106 σ11 := jI106_fr (congrFun (f13 55 (by decide)) 32) (f13 70 (by decide)) (f13 71 (by decide)) (f13 72 (by decide)) hI106
  have I23 : jI119 σ11 := jI119_fr (f13 68 (by decide)) hI119
  have p24 : jKept σ11 := jKept.fr (f13 75 (by decide)) (f13 76 (by decide)) (f13 77 (by decide)) hs_jKept
  refine jcallV (As := [.int (xs x9.toNatClampNeg)]) (rest := []) ⟨hx, hb, hml, hown, hts⟩ hK hP hA hS hZ (c_X12_mean l D cI cL ad zz hJ σ11 τ (xs x9.toNatClampNeg) ((xs x9.toNatClampNeg).toInt) rfl I17 I18 I19 I20 I21 I22 I23 p24) cw_RL_64 (jc_55 cI cL ad σ11 τ) rfl ⟨Nat.le_of_ble_eq_true rfl, Nat.le_of_ble_eq_true rfl⟩ rfl rfl rfl hl.1 rfl (Nat.le_of_ble_eq_true rfl) dL_law_565 ⟨Nat.le_of_ble_eq_true rfl, Nat.le_of_ble_eq_true rfl⟩ (fun r26 σ25 τ25 H locs h25 hP hS => ?_)
  obtain ⟨rfl, f27, f28, I29, p30, h25⟩ := h25
  refine lv_pop hx hb dL_law_568 rfl ?_
  refine lv_goto (tgt := 1357) hx hb dL_law_569 (by decide) ?_
  obtain ⟨x32, ex32⟩ : ∃ y : Int32, y = x0 + 6 := ⟨_, rfl⟩
  have tx32 : x32.toInt = x0.toInt + 6 := (jadd ex32 rfl jz_6 (by omega) (by omega)).trans (by omega)
  refine lv_iinc (v := x32) (lv' := [(3, .int x32), (2, .ref (ad 55)), (1, .ref (ad 0)), (0, .ref b)]) hx hb dL_law_1357 hl (k := 0) rfl (by rw [ex32]; rfl) (by decide) rfl (fun ls hl => ?_)
  refine lv_goto (tgt := 18) hx hb dL_law_1360 (by decide) ?_
  have I33 : jI2 σ25 := jI2_fr ((congrFun (f27 2 (by decide)) 0).trans (congrFun (f13 2 (by decide)) 0)) ((congrFun (f27 2 (by decide)) 1).trans (congrFun (f13 2 (by decide)) 1)) ((congrFun (f27 2 (by decide)) 2).trans (congrFun (f13 2 (by decide)) 2)) ((congrFun (f27 2 (by decide)) 3).trans (congrFun (f13 2 (by decide)) 3)) ((f27 6 (by decide)).trans (f13 6 (by decide))) hI2
  have I34 : jI9 σ25 := jI9_fr ((congrFun (f27 9 (by decide)) 0).trans (congrFun (f13 9 (by decide)) 0)) ((f27 10 (by decide)).trans (f13 10 (by decide))) ((f27 11 (by decide)).trans (f13 11 (by decide))) hI9
  have I35 : jI12 σ25 := jI12_fr ((congrFun (f27 12 (by decide)) 0).trans (congrFun (f13 12 (by decide)) 0)) ((f27 13 (by decide)).trans (f13 13 (by decide))) hI12
  have I36 : jI16 σ25 := jI16_fr ((congrFun (f27 16 (by decide)) 0).trans (congrFun (f13 16 (by decide)) 0)) ((congrFun (f27 16 (by decide)) 1).trans (congrFun (f13 16 (by decide)) 1)) ((congrFun (f27 16 (by decide)) 2).trans (congrFun (f13 16 (by decide)) 2)) ((f27 17 (by decide)).trans (f13 17 (by decide))) hI16
  have I37 : jI18 σ25 := jI18_fr ((congrFun (f27 18 (by decide)) 0).trans (congrFun (f13 18 (by decide)) 0)) ((f27 19 (by decide)).trans (f13 19 (by decide))) hI18
  have I38 : jI22 σ25 := jI22_fr ((congrFun (f27 22 (by decide)) 0).trans (congrFun (f13 22 (by decide)) 0)) ((f27 23 (by decide)).trans (f13 23 (by decide))) hI22
  have I39 : jI31 σ25 := jI31_fr (congrFun (f27 31 (by decide)) 8) (f27 33 (by decide)) (f27 36 (by decide)) I15
  have I40 : jI38 σ25 := jI38_fr ((congrFun (f27 38 (by decide)) 0).trans (congrFun (f13 38 (by decide)) 0)) ((congrFun (f27 38 (by decide)) 1).trans (congrFun (f13 38 (by decide)) 1)) ((f27 39 (by decide)).trans (f13 39 (by decide))) hI38
  have I41 : jI43 σ25 := jI43_fr ((congrFun (f27 43 (by decide)) 8).trans (congrFun (f13 43 (by decide)) 8)) hI43
  have I42 : jI47 σ25 := jI47_fr ((congrFun (f27 47 (by decide)) 0).trans (congrFun (f13 47 (by decide)) 0)) ((f27 48 (by decide)).trans (f13 48 (by decide))) ((f27 49 (by decide)).trans (f13 49 (by decide))) hI47
  have I43 : jI50 σ25 := jI50_fr ((f27 52 (by decide)).trans (f13 52 (by decide))) hI50
  have I44 : jI101 σ25 := jI101_fr (f28 4 (by decide)) (f28 5 (by decide)) (f27 56 (by decide)) (f27 57 (by decide)) (f27 58 (by decide)) (f27 59 (by decide)) I17
  have I45 : jI102 σ25 := jI102_fr (f28 6 (by decide)) (f27 60 (by decide)) (f27 61 (by decide)) I18
  have I46 : jI103 σ25 := jI103_fr (f28 9 (by decide)) I19
  have I47 : jI104 σ25 := jI104_fr (f28 10 (by decide)) (f28 12 (by decide)) (f28 13 (by decide)) (f27 62 (by decide)) (f27 67 (by decide)) I20
  have I48 : jI105 σ25 := jI105_fr (f28 15 (by decide)) (f27 65 (by decide)) I21
  have I49 : jI106 σ25 := jI106_fr (f28 32 (by decide)) (f27 70 (by decide)) (f27 71 (by decide)) (f27 72 (by decide)) I22
  have I50 : jI107 σ25 := jI107_fr ((f28 12 (by decide)).trans (congrFun (f13 55 (by decide)) 12)) ((f28 47 (by decide)).trans (congrFun (f13 55 (by decide)) 47)) ((f27 80 (by decide)).trans (f13 80 (by decide))) hI107
  have I51 : jI109 σ25 := jI109_fr ((f28 50 (by decide)).trans (congrFun (f13 55 (by decide)) 50)) hI109
  have I52 : jI110 σ25 := jI110_fr ((f27 86 (by decide)).trans (f13 86 (by decide))) ((f27 87 (by decide)).trans (f13 87 (by decide))) hI110
  have I53 : jI111 σ25 := jI111_fr ((f27 79 (by decide)).trans (f13 79 (by decide))) hI111
  have p54 : jBook σ25 := jBook.fr ((f28 47 (by decide)).trans (congrFun (f13 55 (by decide)) 47)) ((f28 10 (by decide)).trans (congrFun (f13 55 (by decide)) 10)) ((f27 81 (by decide)).trans (f13 81 (by decide))) hs_jBook
  have z55 : (σ25 38 0).toInt = (σ 38 0).toInt := (congrArg Int32.toInt (show σ25 38 0 = (σ 38 0) from ((congrFun (f27 38 (by decide)) 0).trans (congrFun (f13 38 (by decide)) 0))))
  have z56 : (σ25 55 32).toInt = (σ 55 32).toInt := (congrArg Int32.toInt (show σ25 55 32 = (σ 55 32) from ((f28 32 (by decide)).trans (congrFun (f13 55 (by decide)) 32))))
  have z57 : (σ25 38 1).toInt = (σ 38 1).toInt := (congrArg Int32.toInt (show σ25 38 1 = (σ 38 1) from ((congrFun (f27 38 (by decide)) 1).trans (congrFun (f13 38 (by decide)) 1))))
  have z58 : (σ25 55 55).toInt = (σ 55 55).toInt := (congrArg Int32.toInt (show σ25 55 55 = (σ 55 55) from ((f28 55 (by decide)).trans (congrFun (f13 55 (by decide)) 55))))
  exact ih x32 σ25 τ _ _ ls (by have h9 := tx32; omega) ⟨I33, I34, I35, I36, I37, I38, I39, I40, I41, I42, I43, I44, I45, I46, I47, I48, I49, I50, I51, I52, I53, I29, p30, p54, (by omega), (by omega), (show jKd (σ25 39) (σ25 70) (σ25 55 32).toInt by rw [show σ25 39 = σ 39 from ((f27 39 (by decide)).trans (f13 39 (by decide))), show σ25 70 = σ 70 from ((f27 70 (by decide)).trans (f13 70 (by decide))), show (σ25 55 32).toInt = (σ 55 32).toInt from by omega]; exact hr0), (show jTt (σ25 42) (σ25 85) (σ25 55 55).toInt by rw [show σ25 42 = σ 42 from ((f27 42 (by decide)).trans (f13 42 (by decide))), show σ25 85 = σ 85 from ((f27 85 (by decide)).trans (f13 85 (by decide))), show (σ25 55 55).toInt = (σ 55 55).toInt from by omega]; exact hr1)⟩ hP hS (lv_sub hl [0, 1, 2, 3] rfl)
set_option maxHeartbeats 4000000 in
set_option maxRecDepth 100000 in
theorem law_case_12 {p : Program} {e : Env} {s : State} {m : MethodId} {below : List Frame} {meth : Method} {c : Code} (l : Launch) {b L : Nat} {xs : Nat → Int32} {D : va_G} {cI cL : ClassId} {ad zz : Nat → Nat} (C0 : lw_At p s m meth c b L xs) (hJ : jD ad) (hA : ∀ q, jA ad q → s.heap.size ≤ q) (hK : jK D cI cL s) (hZ : jZ zz (fun q : Nat => s.heap.size ≤ q) s s.heap) {x0 : Int32} (hx0 : 0 ≤ x0.toInt) (hxL : x0.toInt + 6 ≤ (L : Int)) (hL : L ≤ 384) {σ : Nat → Nat → Int32} {τ : Nat → Nat → Int64} {H : Heap} {locs : List Loc} (hS : va_S (fun q : Nat => s.heap.size ≤ q) s.heap H locs) {ls : Array Slot} (hAll : jAll σ τ) (hP : jH D cI cL ad σ τ H) (hl : lv_has ls 4 [(3, .int x0), (2, .ref (ad 55)), (1, .ref (ad 0)), (0, .ref b)]) (ih : ∀ (x1 : Int32) (σ : Nat → Nat → Int32) (τ : Nat → Nat → Int64) (H : Heap) (locs : List Loc) (ls : Array Slot), x1.toInt = x0.toInt + 6 → jAll σ τ → jH D cI cL ad σ τ H → va_S (fun q : Nat => s.heap.size ≤ q) s.heap H locs → lv_has ls 4 [(3, .int x1), (2, .ref (ad 55)), (1, .ref (ad 0)), (0, .ref b)] → W p l e room_1 s m #[Value.ref b] below meth c H locs 90 348600 (lw_Z below #[Value.ref b] s) (F0 m 18 ls [])) : W p l e room_1 s m #[Value.ref b] below meth c H locs 90 348600 (lw_Z below #[Value.ref b] s) (F0 m 572 ls []) := by
  obtain ⟨hx, hb, hr, hml, hown, hts0, hX, hbl, hlocks, hgv⟩ := C0
  have hts : ∀ w ∈ wsL_law, w.before #[Value.ref b] s = true := fun w h => hts0 w (wsL_law_in w h)
  have hbA : ¬ (fun q : Nat => s.heap.size ≤ q) b := Nat.not_le.mpr hbl
  have hown : s.vm.findClass RL = some m.cls := hown
  obtain ⟨hI2, hI9, hI12, hI16, hI18, hI22, hI31, hI38, hI43, hI47, hI50, hI101, hI102, hI103, hI104, hI105, hI106, hI107, hI109, hI110, hI111, hI119, hs_jKept, hs_jBook, ht0, ht1, hr0, hr1⟩ := hAll
  have hL9 : (L : Int) ≤ 384 := by omega
  obtain ⟨i1, i2, w3⟩ : (0 ≤ (σ 38 0).toInt ∧ (σ 38 0).toInt ≤ 20) ∧ (0 ≤ (σ 38 1).toInt ∧ (σ 38 1).toInt ≤ 1000) ∧ (∀ k : Nat, k < 20 → 0 ≤ (σ 39 k).toInt ∧ (σ 39 k).toInt ≤ 6) := id hI38
  obtain ⟨i4, w5, w6, w7⟩ : (0 ≤ (σ 55 32).toInt ∧ (σ 55 32).toInt ≤ 20) ∧ (∀ k : Nat, k < 20 → 0 ≤ (σ 70 k).toInt ∧ (σ 70 k).toInt ≤ 6) ∧ (∀ k : Nat, k < 20 → 0 ≤ (σ 71 k).toInt ∧ (σ 71 k).toInt ≤ 8) ∧ (∀ k : Nat, k < 160 → 0 ≤ (σ 72 k).toInt ∧ (σ 72 k).toInt ≤ 3) := id hI106
  refine lv_aload_n hx hb dL_law_572 rfl (lv_at hl 2 rfl) ?_
  refine lv_aload_n hx hb dL_law_573 rfl (lv_at hl 3 rfl) ?_
  refine lv_iload_n hx hb dL_law_574 rfl (lv_at hl 0 rfl) ?_
  refine lv_iconst (v := 1) hx hb dL_law_575 (by decide) ?_
  have g8 := jrg (rfl : x0.toInt = x0.toInt)
  refine lv_iadd hx hb dL_law_576 ?_
  refine lv_topi (fun x9 ex9 => ?_)
  have tx9 : x9.toInt = x0.toInt + 1 := (jadd ex9 rfl jz_1 (by omega) (by omega)).trans (by omega)
  refine va_sld hx hb hX hbl hbA hS (jin tx9 (by omega) (by omega)) dL_law_577 ?_
  have g10 := jrg (rfl : (xs x9.toNatClampNeg).toInt = (xs x9.toNatClampNeg).toInt)
  refine lv_aload_n hx hb dL_law_578 rfl (lv_at hl 3 rfl) ?_
  refine lv_iload_n hx hb dL_law_579 rfl (lv_at hl 0 rfl) ?_
  refine lv_iconst (v := 2) hx hb dL_law_580 (by decide) ?_
  refine lv_iadd hx hb dL_law_581 ?_
  refine lv_topi (fun x11 ex11 => ?_)
  have tx11 : x11.toInt = x0.toInt + 2 := (jadd ex11 rfl jz_2 (by omega) (by omega)).trans (by omega)
  refine va_sld hx hb hX hbl hbA hS (jin tx11 (by omega) (by omega)) dL_law_582 ?_
  have g12 := jrg (rfl : (xs x11.toNatClampNeg).toInt = (xs x11.toNatClampNeg).toInt)
  refine jcallV (As := [.int (xs x9.toNatClampNeg), .int (xs x11.toNatClampNeg)]) (rest := []) ⟨hx, hb, hml, hown, hts⟩ hK hP hA hS hZ (c_X11_likely l D cI cL ad zz hJ σ τ (xs x9.toNatClampNeg) ((xs x9.toNatClampNeg).toInt) rfl (xs x11.toNatClampNeg) ((xs x11.toNatClampNeg).toInt) rfl hI2 hI16 hI18 hI22 hI31 hI38) cw_RL_65 (jc_0 cI cL ad σ τ) rfl ⟨Nat.le_of_ble_eq_true rfl, Nat.le_of_ble_eq_true rfl⟩ rfl rfl rfl hl.1 rfl (Nat.le_of_ble_eq_true rfl) dL_law_583 ⟨Nat.le_of_ble_eq_true rfl, Nat.le_of_ble_eq_true rfl⟩ (fun r14 σ13 τ13 H locs h13 hP hS => ?_)
  obtain ⟨rfl, f15, f16, I17, h13⟩ := h13
  refine lv_pop hx hb dL_law_586 rfl ?_
  refine lv_aload_n hx hb dL_law_587 rfl (lv_at hl 1 rfl) ?_
  refine lv_aload_n hx hb dL_law_588 rfl (lv_at hl 3 rfl) ?_
  refine lv_iload_n hx hb dL_law_589 rfl (lv_at hl 0 rfl) ?_
  refine lv_iconst (v := 1) hx hb dL_law_590 (by decide) ?_
  refine lv_iadd hx hb dL_law_591 ?_
  refine jtopr ex9.symm ?_
  refine va_sld hx hb hX hbl hbA hS (jin tx9 (by omega) (by omega)) dL_law_592 ?_
  refine lv_aload_n hx hb dL_law_593 rfl (lv_at hl 3 rfl) ?_
  refine lv_iload_n hx hb dL_law_594 rfl (lv_at hl 0 rfl) ?_
  refine lv_iconst (v := 2) hx hb dL_law_595 (by decide) ?_
  refine lv_iadd hx hb dL_law_596 ?_
  refine jtopr ex11.symm ?_
  refine va_sld hx hb hX hbl hbA hS (jin tx11 (by omega) (by omega)) dL_law_597 ?_
  have I19 : jI101 σ13 := jI101_fr (congrFun (f15 55 (by decide)) 4) (congrFun (f15 55 (by decide)) 5) (f15 56 (by decide)) (f15 57 (by decide)) (f15 58 (by decide)) (f15 59 (by decide)) hI101
  have I20 : jI102 σ13 := jI102_fr (congrFun (f15 55 (by decide)) 6) (f15 60 (by decide)) (f15 61 (by decide)) hI102
  have I21 : jI103 σ13 := jI103_fr (congrFun (f15 55 (by decide)) 9) hI103
  have I22 : jI104 σ13 := jI104_fr (congrFun (f15 55 (by decide)) 10) (congrFun (f15 55 (by decide)) 12) (congrFun (f15 55 (by decide)) 13) (f15 62 (by decide)) (f15 67 (by decide)) hI104
  have I23 : jI105 σ13 := jI105_fr (congrFun (f15 55 (by decide)) 15) (f15 65 (by decide)) hI105
  have I24 : jI106 σ13 := jI106_fr (congrFun (f15 55 (by decide)) 32) (f15 70 (by decide)) (f15 71 (by decide)) (f15 72 (by decide)) hI106
  have I25 : jI119 σ13 := jI119_fr (f15 68 (by decide)) hI119
  have p26 : jKept σ13 := jKept.fr (f15 75 (by decide)) (f15 76 (by decide)) (f15 77 (by decide)) hs_jKept
  refine jcallV (As := [.int (xs x9.toNatClampNeg), .int (xs x11.toNatClampNeg)]) (rest := []) ⟨hx, hb, hml, hown, hts⟩ hK hP hA hS hZ (c_X12_likely l D cI cL ad zz hJ σ13 τ (xs x9.toNatClampNeg) ((xs x9.toNatClampNeg).toInt) rfl (xs x11.toNatClampNeg) ((xs x11.toNatClampNeg).toInt) rfl I19 I20 I21 I22 I23 I24 I25 p26) cw_RL_68 (jc_55 cI cL ad σ13 τ) rfl ⟨Nat.le_of_ble_eq_true rfl, Nat.le_of_ble_eq_true rfl⟩ rfl rfl rfl hl.1 rfl (Nat.le_of_ble_eq_true rfl) dL_law_598 ⟨Nat.le_of_ble_eq_true rfl, Nat.le_of_ble_eq_true rfl⟩ (fun r28 σ27 τ27 H locs h27 hP hS => ?_)
  obtain ⟨rfl, f29, f30, I31, p32, h27⟩ := h27
  refine lv_pop hx hb dL_law_601 rfl ?_
  refine lv_goto (tgt := 1357) hx hb dL_law_602 (by decide) ?_
  obtain ⟨x34, ex34⟩ : ∃ y : Int32, y = x0 + 6 := ⟨_, rfl⟩
  have tx34 : x34.toInt = x0.toInt + 6 := (jadd ex34 rfl jz_6 (by omega) (by omega)).trans (by omega)
  refine lv_iinc (v := x34) (lv' := [(3, .int x34), (2, .ref (ad 55)), (1, .ref (ad 0)), (0, .ref b)]) hx hb dL_law_1357 hl (k := 0) rfl (by rw [ex34]; rfl) (by decide) rfl (fun ls hl => ?_)
  refine lv_goto (tgt := 18) hx hb dL_law_1360 (by decide) ?_
  have I35 : jI2 σ27 := jI2_fr ((congrFun (f29 2 (by decide)) 0).trans (congrFun (f15 2 (by decide)) 0)) ((congrFun (f29 2 (by decide)) 1).trans (congrFun (f15 2 (by decide)) 1)) ((congrFun (f29 2 (by decide)) 2).trans (congrFun (f15 2 (by decide)) 2)) ((congrFun (f29 2 (by decide)) 3).trans (congrFun (f15 2 (by decide)) 3)) ((f29 6 (by decide)).trans (f15 6 (by decide))) hI2
  have I36 : jI9 σ27 := jI9_fr ((congrFun (f29 9 (by decide)) 0).trans (congrFun (f15 9 (by decide)) 0)) ((f29 10 (by decide)).trans (f15 10 (by decide))) ((f29 11 (by decide)).trans (f15 11 (by decide))) hI9
  have I37 : jI12 σ27 := jI12_fr ((congrFun (f29 12 (by decide)) 0).trans (congrFun (f15 12 (by decide)) 0)) ((f29 13 (by decide)).trans (f15 13 (by decide))) hI12
  have I38 : jI16 σ27 := jI16_fr ((congrFun (f29 16 (by decide)) 0).trans (congrFun (f15 16 (by decide)) 0)) ((congrFun (f29 16 (by decide)) 1).trans (congrFun (f15 16 (by decide)) 1)) ((congrFun (f29 16 (by decide)) 2).trans (congrFun (f15 16 (by decide)) 2)) ((f29 17 (by decide)).trans (f15 17 (by decide))) hI16
  have I39 : jI18 σ27 := jI18_fr ((congrFun (f29 18 (by decide)) 0).trans (congrFun (f15 18 (by decide)) 0)) ((f29 19 (by decide)).trans (f15 19 (by decide))) hI18
  have I40 : jI22 σ27 := jI22_fr ((congrFun (f29 22 (by decide)) 0).trans (congrFun (f15 22 (by decide)) 0)) ((f29 23 (by decide)).trans (f15 23 (by decide))) hI22
  have I41 : jI31 σ27 := jI31_fr (congrFun (f29 31 (by decide)) 8) (f29 33 (by decide)) (f29 36 (by decide)) I17
  have I42 : jI38 σ27 := jI38_fr ((congrFun (f29 38 (by decide)) 0).trans (congrFun (f15 38 (by decide)) 0)) ((congrFun (f29 38 (by decide)) 1).trans (congrFun (f15 38 (by decide)) 1)) ((f29 39 (by decide)).trans (f15 39 (by decide))) hI38
  have I43 : jI43 σ27 := jI43_fr ((congrFun (f29 43 (by decide)) 8).trans (congrFun (f15 43 (by decide)) 8)) hI43
  have I44 : jI47 σ27 := jI47_fr ((congrFun (f29 47 (by decide)) 0).trans (congrFun (f15 47 (by decide)) 0)) ((f29 48 (by decide)).trans (f15 48 (by decide))) ((f29 49 (by decide)).trans (f15 49 (by decide))) hI47
  have I45 : jI50 σ27 := jI50_fr ((f29 52 (by decide)).trans (f15 52 (by decide))) hI50
  have I46 : jI101 σ27 := jI101_fr (f30 4 (by decide)) (f30 5 (by decide)) (f29 56 (by decide)) (f29 57 (by decide)) (f29 58 (by decide)) (f29 59 (by decide)) I19
  have I47 : jI102 σ27 := jI102_fr (f30 6 (by decide)) (f29 60 (by decide)) (f29 61 (by decide)) I20
  have I48 : jI103 σ27 := jI103_fr (f30 9 (by decide)) I21
  have I49 : jI104 σ27 := jI104_fr (f30 10 (by decide)) (f30 12 (by decide)) (f30 13 (by decide)) (f29 62 (by decide)) (f29 67 (by decide)) I22
  have I50 : jI105 σ27 := jI105_fr (f30 15 (by decide)) (f29 65 (by decide)) I23
  have I51 : jI106 σ27 := jI106_fr (f30 32 (by decide)) (f29 70 (by decide)) (f29 71 (by decide)) (f29 72 (by decide)) I24
  have I52 : jI107 σ27 := jI107_fr ((f30 12 (by decide)).trans (congrFun (f15 55 (by decide)) 12)) ((f30 47 (by decide)).trans (congrFun (f15 55 (by decide)) 47)) ((f29 80 (by decide)).trans (f15 80 (by decide))) hI107
  have I53 : jI109 σ27 := jI109_fr ((f30 50 (by decide)).trans (congrFun (f15 55 (by decide)) 50)) hI109
  have I54 : jI110 σ27 := jI110_fr ((f29 86 (by decide)).trans (f15 86 (by decide))) ((f29 87 (by decide)).trans (f15 87 (by decide))) hI110
  have I55 : jI111 σ27 := jI111_fr ((f29 79 (by decide)).trans (f15 79 (by decide))) hI111
  have p56 : jBook σ27 := jBook.fr ((f30 47 (by decide)).trans (congrFun (f15 55 (by decide)) 47)) ((f30 10 (by decide)).trans (congrFun (f15 55 (by decide)) 10)) ((f29 81 (by decide)).trans (f15 81 (by decide))) hs_jBook
  have z57 : (σ27 38 0).toInt = (σ 38 0).toInt := (congrArg Int32.toInt (show σ27 38 0 = (σ 38 0) from ((congrFun (f29 38 (by decide)) 0).trans (congrFun (f15 38 (by decide)) 0))))
  have z58 : (σ27 55 32).toInt = (σ 55 32).toInt := (congrArg Int32.toInt (show σ27 55 32 = (σ 55 32) from ((f30 32 (by decide)).trans (congrFun (f15 55 (by decide)) 32))))
  have z59 : (σ27 38 1).toInt = (σ 38 1).toInt := (congrArg Int32.toInt (show σ27 38 1 = (σ 38 1) from ((congrFun (f29 38 (by decide)) 1).trans (congrFun (f15 38 (by decide)) 1))))
  have z60 : (σ27 55 55).toInt = (σ 55 55).toInt := (congrArg Int32.toInt (show σ27 55 55 = (σ 55 55) from ((f30 55 (by decide)).trans (congrFun (f15 55 (by decide)) 55))))
  exact ih x34 σ27 τ _ _ ls (by have h9 := tx34; omega) ⟨I35, I36, I37, I38, I39, I40, I41, I42, I43, I44, I45, I46, I47, I48, I49, I50, I51, I52, I53, I54, I55, I31, p32, p56, (by omega), (by omega), (show jKd (σ27 39) (σ27 70) (σ27 55 32).toInt by rw [show σ27 39 = σ 39 from ((f29 39 (by decide)).trans (f15 39 (by decide))), show σ27 70 = σ 70 from ((f29 70 (by decide)).trans (f15 70 (by decide))), show (σ27 55 32).toInt = (σ 55 32).toInt from by omega]; exact hr0), (show jTt (σ27 42) (σ27 85) (σ27 55 55).toInt by rw [show σ27 42 = σ 42 from ((f29 42 (by decide)).trans (f15 42 (by decide))), show σ27 85 = σ 85 from ((f29 85 (by decide)).trans (f15 85 (by decide))), show (σ27 55 55).toInt = (σ 55 55).toInt from by omega]; exact hr1)⟩ hP hS (lv_sub hl [0, 1, 2, 3] rfl)
set_option maxHeartbeats 4000000 in
set_option maxRecDepth 100000 in
theorem law_case_13 {p : Program} {e : Env} {s : State} {m : MethodId} {below : List Frame} {meth : Method} {c : Code} (l : Launch) {b L : Nat} {xs : Nat → Int32} {D : va_G} {cI cL : ClassId} {ad zz : Nat → Nat} (C0 : lw_At p s m meth c b L xs) (hJ : jD ad) (hA : ∀ q, jA ad q → s.heap.size ≤ q) (hK : jK D cI cL s) (hZ : jZ zz (fun q : Nat => s.heap.size ≤ q) s s.heap) {x0 : Int32} (hx0 : 0 ≤ x0.toInt) (hxL : x0.toInt + 6 ≤ (L : Int)) (hL : L ≤ 384) {σ : Nat → Nat → Int32} {τ : Nat → Nat → Int64} {H : Heap} {locs : List Loc} (hS : va_S (fun q : Nat => s.heap.size ≤ q) s.heap H locs) {ls : Array Slot} (hAll : jAll σ τ) (hP : jH D cI cL ad σ τ H) (hl : lv_has ls 4 [(3, .int x0), (2, .ref (ad 55)), (1, .ref (ad 0)), (0, .ref b)]) (ih : ∀ (x1 : Int32) (σ : Nat → Nat → Int32) (τ : Nat → Nat → Int64) (H : Heap) (locs : List Loc) (ls : Array Slot), x1.toInt = x0.toInt + 6 → jAll σ τ → jH D cI cL ad σ τ H → va_S (fun q : Nat => s.heap.size ≤ q) s.heap H locs → lv_has ls 4 [(3, .int x1), (2, .ref (ad 55)), (1, .ref (ad 0)), (0, .ref b)] → W p l e room_1 s m #[Value.ref b] below meth c H locs 90 348600 (lw_Z below #[Value.ref b] s) (F0 m 18 ls [])) : W p l e room_1 s m #[Value.ref b] below meth c H locs 90 348600 (lw_Z below #[Value.ref b] s) (F0 m 605 ls []) := by
  obtain ⟨hx, hb, hr, hml, hown, hts0, hX, hbl, hlocks, hgv⟩ := C0
  have hts : ∀ w ∈ wsL_law, w.before #[Value.ref b] s = true := fun w h => hts0 w (wsL_law_in w h)
  have hbA : ¬ (fun q : Nat => s.heap.size ≤ q) b := Nat.not_le.mpr hbl
  have hown : s.vm.findClass RL = some m.cls := hown
  obtain ⟨hI2, hI9, hI12, hI16, hI18, hI22, hI31, hI38, hI43, hI47, hI50, hI101, hI102, hI103, hI104, hI105, hI106, hI107, hI109, hI110, hI111, hI119, hs_jKept, hs_jBook, ht0, ht1, hr0, hr1⟩ := hAll
  have hL9 : (L : Int) ≤ 384 := by omega
  obtain ⟨i1, i2, w3⟩ : (0 ≤ (σ 38 0).toInt ∧ (σ 38 0).toInt ≤ 20) ∧ (0 ≤ (σ 38 1).toInt ∧ (σ 38 1).toInt ≤ 1000) ∧ (∀ k : Nat, k < 20 → 0 ≤ (σ 39 k).toInt ∧ (σ 39 k).toInt ≤ 6) := id hI38
  obtain ⟨i4, w5, w6, w7⟩ : (0 ≤ (σ 55 32).toInt ∧ (σ 55 32).toInt ≤ 20) ∧ (∀ k : Nat, k < 20 → 0 ≤ (σ 70 k).toInt ∧ (σ 70 k).toInt ≤ 6) ∧ (∀ k : Nat, k < 20 → 0 ≤ (σ 71 k).toInt ∧ (σ 71 k).toInt ≤ 8) ∧ (∀ k : Nat, k < 160 → 0 ≤ (σ 72 k).toInt ∧ (σ 72 k).toInt ≤ 3) := id hI106
  refine lv_aload_n hx hb dL_law_605 rfl (lv_at hl 2 rfl) ?_
  refine lv_aload_n hx hb dL_law_606 rfl (lv_at hl 3 rfl) ?_
  refine lv_iload_n hx hb dL_law_607 rfl (lv_at hl 0 rfl) ?_
  refine lv_iconst (v := 1) hx hb dL_law_608 (by decide) ?_
  have g8 := jrg (rfl : x0.toInt = x0.toInt)
  refine lv_iadd hx hb dL_law_609 ?_
  refine lv_topi (fun x9 ex9 => ?_)
  have tx9 : x9.toInt = x0.toInt + 1 := (jadd ex9 rfl jz_1 (by omega) (by omega)).trans (by omega)
  refine va_sld hx hb hX hbl hbA hS (jin tx9 (by omega) (by omega)) dL_law_610 ?_
  have g10 := jrg (rfl : (xs x9.toNatClampNeg).toInt = (xs x9.toNatClampNeg).toInt)
  refine jcallV (As := [.int (xs x9.toNatClampNeg)]) (rest := []) ⟨hx, hb, hml, hown, hts⟩ hK hP hA hS hZ (c_X11_best l D cI cL ad zz hJ σ τ (xs x9.toNatClampNeg) ((xs x9.toNatClampNeg).toInt) rfl hI2 hI16 hI22 hI31 hI47) cw_RL_69 (jc_0 cI cL ad σ τ) rfl ⟨Nat.le_of_ble_eq_true rfl, Nat.le_of_ble_eq_true rfl⟩ rfl rfl rfl hl.1 rfl (Nat.le_of_ble_eq_true rfl) dL_law_611 ⟨Nat.le_of_ble_eq_true rfl, Nat.le_of_ble_eq_true rfl⟩ (fun r12 σ11 τ11 H locs h11 hP hS => ?_)
  obtain ⟨rfl, f13, f14, I15, h11⟩ := h11
  refine lv_pop hx hb dL_law_614 rfl ?_
  refine lv_aload_n hx hb dL_law_615 rfl (lv_at hl 1 rfl) ?_
  refine lv_aload_n hx hb dL_law_616 rfl (lv_at hl 3 rfl) ?_
  refine lv_iload_n hx hb dL_law_617 rfl (lv_at hl 0 rfl) ?_
  refine lv_iconst (v := 1) hx hb dL_law_618 (by decide) ?_
  refine lv_iadd hx hb dL_law_619 ?_
  refine jtopr ex9.symm ?_
  refine va_sld hx hb hX hbl hbA hS (jin tx9 (by omega) (by omega)) dL_law_620 ?_
  have I17 : jI101 σ11 := jI101_fr (congrFun (f13 55 (by decide)) 4) (congrFun (f13 55 (by decide)) 5) (f13 56 (by decide)) (f13 57 (by decide)) (f13 58 (by decide)) (f13 59 (by decide)) hI101
  have I18 : jI102 σ11 := jI102_fr (congrFun (f13 55 (by decide)) 6) (f13 60 (by decide)) (f13 61 (by decide)) hI102
  have I19 : jI103 σ11 := jI103_fr (congrFun (f13 55 (by decide)) 9) hI103
  have I20 : jI104 σ11 := jI104_fr (congrFun (f13 55 (by decide)) 10) (congrFun (f13 55 (by decide)) 12) (congrFun (f13 55 (by decide)) 13) (f13 62 (by decide)) (f13 67 (by decide)) hI104
  have I21 : jI105 σ11 := jI105_fr (congrFun (f13 55 (by decide)) 15) (f13 65 (by decide)) hI105
  have I22 : jI106 σ11 := jI106_fr (congrFun (f13 55 (by decide)) 32) (f13 70 (by decide)) (f13 71 (by decide)) (f13 72 (by decide)) hI106
  have I23 : jI107 σ11 := jI107_fr (congrFun (f13 55 (by decide)) 12) (congrFun (f13 55 (by decide)) 47) (f13 80 (by decide)) hI107
  have I24 : jI119 σ11 := jI119_fr (f13 68 (by decide)) hI119
  have p25 : jKept σ11 := jKept.fr (f13 75 (by decide)) (f13 76 (by decide)) (f13 77 (by decide)) hs_jKept
  have p26 : jBook σ11 := jBook.fr (congrFun (f13 55 (by decide)) 47) (congrFun (f13 55 (by decide)) 10) (f13 81 (by decide)) hs_jBook
  refine jcallV (As := [.int (xs x9.toNatClampNeg)]) (rest := []) ⟨hx, hb, hml, hown, hts⟩ hK hP hA hS hZ (c_X12_best l D cI cL ad zz hJ σ11 τ (xs x9.toNatClampNeg) ((xs x9.toNatClampNeg).toInt) rfl I17 I18 I19 I20 I21 I22 I23 I24 p25 p26) cw_RL_72 (jc_55 cI cL ad σ11 τ) rfl ⟨Nat.le_of_ble_eq_true rfl, Nat.le_of_ble_eq_true rfl⟩ rfl rfl rfl hl.1 rfl (Nat.le_of_ble_eq_true rfl) dL_law_621 ⟨Nat.le_of_ble_eq_true rfl, Nat.le_of_ble_eq_true rfl⟩ (fun r28 σ27 τ27 H locs h27 hP hS => ?_)
  obtain ⟨rfl, f29, f30, I31, p32, p33, h27⟩ := h27
  refine lv_pop hx hb dL_law_624 rfl ?_
  refine lv_goto (tgt := 1357) hx hb dL_law_625 (by decide) ?_
  obtain ⟨x35, ex35⟩ : ∃ y : Int32, y = x0 + 6 := ⟨_, rfl⟩
  have tx35 : x35.toInt = x0.toInt + 6 := (jadd ex35 rfl jz_6 (by omega) (by omega)).trans (by omega)
  refine lv_iinc (v := x35) (lv' := [(3, .int x35), (2, .ref (ad 55)), (1, .ref (ad 0)), (0, .ref b)]) hx hb dL_law_1357 hl (k := 0) rfl (by rw [ex35]; rfl) (by decide) rfl (fun ls hl => ?_)
  refine lv_goto (tgt := 18) hx hb dL_law_1360 (by decide) ?_
  have I36 : jI2 σ27 := jI2_fr ((congrFun (f29 2 (by decide)) 0).trans (congrFun (f13 2 (by decide)) 0)) ((congrFun (f29 2 (by decide)) 1).trans (congrFun (f13 2 (by decide)) 1)) ((congrFun (f29 2 (by decide)) 2).trans (congrFun (f13 2 (by decide)) 2)) ((congrFun (f29 2 (by decide)) 3).trans (congrFun (f13 2 (by decide)) 3)) ((f29 6 (by decide)).trans (f13 6 (by decide))) hI2
  have I37 : jI9 σ27 := jI9_fr ((congrFun (f29 9 (by decide)) 0).trans (congrFun (f13 9 (by decide)) 0)) ((f29 10 (by decide)).trans (f13 10 (by decide))) ((f29 11 (by decide)).trans (f13 11 (by decide))) hI9
  have I38 : jI12 σ27 := jI12_fr ((congrFun (f29 12 (by decide)) 0).trans (congrFun (f13 12 (by decide)) 0)) ((f29 13 (by decide)).trans (f13 13 (by decide))) hI12
  have I39 : jI16 σ27 := jI16_fr ((congrFun (f29 16 (by decide)) 0).trans (congrFun (f13 16 (by decide)) 0)) ((congrFun (f29 16 (by decide)) 1).trans (congrFun (f13 16 (by decide)) 1)) ((congrFun (f29 16 (by decide)) 2).trans (congrFun (f13 16 (by decide)) 2)) ((f29 17 (by decide)).trans (f13 17 (by decide))) hI16
  have I40 : jI18 σ27 := jI18_fr ((congrFun (f29 18 (by decide)) 0).trans (congrFun (f13 18 (by decide)) 0)) ((f29 19 (by decide)).trans (f13 19 (by decide))) hI18
  have I41 : jI22 σ27 := jI22_fr ((congrFun (f29 22 (by decide)) 0).trans (congrFun (f13 22 (by decide)) 0)) ((f29 23 (by decide)).trans (f13 23 (by decide))) hI22
  have I42 : jI31 σ27 := jI31_fr (congrFun (f29 31 (by decide)) 8) (f29 33 (by decide)) (f29 36 (by decide)) I15
  have I43 : jI38 σ27 := jI38_fr ((congrFun (f29 38 (by decide)) 0).trans (congrFun (f13 38 (by decide)) 0)) ((congrFun (f29 38 (by decide)) 1).trans (congrFun (f13 38 (by decide)) 1)) ((f29 39 (by decide)).trans (f13 39 (by decide))) hI38
  have I44 : jI43 σ27 := jI43_fr ((congrFun (f29 43 (by decide)) 8).trans (congrFun (f13 43 (by decide)) 8)) hI43
  have I45 : jI47 σ27 := jI47_fr ((congrFun (f29 47 (by decide)) 0).trans (congrFun (f13 47 (by decide)) 0)) ((f29 48 (by decide)).trans (f13 48 (by decide))) ((f29 49 (by decide)).trans (f13 49 (by decide))) hI47
  have I46 : jI50 σ27 := jI50_fr ((f29 52 (by decide)).trans (f13 52 (by decide))) hI50
  have I47 : jI101 σ27 := jI101_fr (f30 4 (by decide)) (f30 5 (by decide)) (f29 56 (by decide)) (f29 57 (by decide)) (f29 58 (by decide)) (f29 59 (by decide)) I17
  have I48 : jI102 σ27 := jI102_fr (f30 6 (by decide)) (f29 60 (by decide)) (f29 61 (by decide)) I18
  have I49 : jI103 σ27 := jI103_fr (f30 9 (by decide)) I19
  have I50 : jI104 σ27 := jI104_fr (f30 10 (by decide)) (f30 12 (by decide)) (f30 13 (by decide)) (f29 62 (by decide)) (f29 67 (by decide)) I20
  have I51 : jI105 σ27 := jI105_fr (f30 15 (by decide)) (f29 65 (by decide)) I21
  have I52 : jI106 σ27 := jI106_fr (f30 32 (by decide)) (f29 70 (by decide)) (f29 71 (by decide)) (f29 72 (by decide)) I22
  have I53 : jI107 σ27 := jI107_fr (f30 12 (by decide)) (f30 47 (by decide)) (f29 80 (by decide)) I23
  have I54 : jI109 σ27 := jI109_fr ((f30 50 (by decide)).trans (congrFun (f13 55 (by decide)) 50)) hI109
  have I55 : jI110 σ27 := jI110_fr ((f29 86 (by decide)).trans (f13 86 (by decide))) ((f29 87 (by decide)).trans (f13 87 (by decide))) hI110
  have I56 : jI111 σ27 := jI111_fr ((f29 79 (by decide)).trans (f13 79 (by decide))) hI111
  have z57 : (σ27 38 0).toInt = (σ 38 0).toInt := (congrArg Int32.toInt (show σ27 38 0 = (σ 38 0) from ((congrFun (f29 38 (by decide)) 0).trans (congrFun (f13 38 (by decide)) 0))))
  have z58 : (σ27 55 32).toInt = (σ 55 32).toInt := (congrArg Int32.toInt (show σ27 55 32 = (σ 55 32) from ((f30 32 (by decide)).trans (congrFun (f13 55 (by decide)) 32))))
  have z59 : (σ27 38 1).toInt = (σ 38 1).toInt := (congrArg Int32.toInt (show σ27 38 1 = (σ 38 1) from ((congrFun (f29 38 (by decide)) 1).trans (congrFun (f13 38 (by decide)) 1))))
  have z60 : (σ27 55 55).toInt = (σ 55 55).toInt := (congrArg Int32.toInt (show σ27 55 55 = (σ 55 55) from ((f30 55 (by decide)).trans (congrFun (f13 55 (by decide)) 55))))
  exact ih x35 σ27 τ _ _ ls (by have h9 := tx35; omega) ⟨I36, I37, I38, I39, I40, I41, I42, I43, I44, I45, I46, I47, I48, I49, I50, I51, I52, I53, I54, I55, I56, I31, p32, p33, (by omega), (by omega), (show jKd (σ27 39) (σ27 70) (σ27 55 32).toInt by rw [show σ27 39 = σ 39 from ((f29 39 (by decide)).trans (f13 39 (by decide))), show σ27 70 = σ 70 from ((f29 70 (by decide)).trans (f13 70 (by decide))), show (σ27 55 32).toInt = (σ 55 32).toInt from by omega]; exact hr0), (show jTt (σ27 42) (σ27 85) (σ27 55 55).toInt by rw [show σ27 42 = σ 42 from ((f29 42 (by decide)).trans (f13 42 (by decide))), show σ27 85 = σ 85 from ((f29 85 (by decide)).trans (f13 85 (by decide))), show (σ27 55 55).toInt = (σ 55 55).toInt from by omega]; exact hr1)⟩ hP hS (lv_sub hl [0, 1, 2, 3] rfl)
set_option maxHeartbeats 4000000 in
set_option maxRecDepth 100000 in
theorem law_case_14 {p : Program} {e : Env} {s : State} {m : MethodId} {below : List Frame} {meth : Method} {c : Code} (l : Launch) {b L : Nat} {xs : Nat → Int32} {D : va_G} {cI cL : ClassId} {ad zz : Nat → Nat} (C0 : lw_At p s m meth c b L xs) (hJ : jD ad) (hA : ∀ q, jA ad q → s.heap.size ≤ q) (hK : jK D cI cL s) (hZ : jZ zz (fun q : Nat => s.heap.size ≤ q) s s.heap) {x0 : Int32} (hx0 : 0 ≤ x0.toInt) (hxL : x0.toInt + 6 ≤ (L : Int)) (hL : L ≤ 384) {σ : Nat → Nat → Int32} {τ : Nat → Nat → Int64} {H : Heap} {locs : List Loc} (hS : va_S (fun q : Nat => s.heap.size ≤ q) s.heap H locs) {ls : Array Slot} (hAll : jAll σ τ) (hP : jH D cI cL ad σ τ H) (hl : lv_has ls 4 [(3, .int x0), (2, .ref (ad 55)), (1, .ref (ad 0)), (0, .ref b)]) (ih : ∀ (x1 : Int32) (σ : Nat → Nat → Int32) (τ : Nat → Nat → Int64) (H : Heap) (locs : List Loc) (ls : Array Slot), x1.toInt = x0.toInt + 6 → jAll σ τ → jH D cI cL ad σ τ H → va_S (fun q : Nat => s.heap.size ≤ q) s.heap H locs → lv_has ls 4 [(3, .int x1), (2, .ref (ad 55)), (1, .ref (ad 0)), (0, .ref b)] → W p l e room_1 s m #[Value.ref b] below meth c H locs 90 348600 (lw_Z below #[Value.ref b] s) (F0 m 18 ls [])) : W p l e room_1 s m #[Value.ref b] below meth c H locs 90 348600 (lw_Z below #[Value.ref b] s) (F0 m 628 ls []) := by
  obtain ⟨hx, hb, hr, hml, hown, hts0, hX, hbl, hlocks, hgv⟩ := C0
  have hts : ∀ w ∈ wsL_law, w.before #[Value.ref b] s = true := fun w h => hts0 w (wsL_law_in w h)
  have hbA : ¬ (fun q : Nat => s.heap.size ≤ q) b := Nat.not_le.mpr hbl
  have hown : s.vm.findClass RL = some m.cls := hown
  obtain ⟨hI2, hI9, hI12, hI16, hI18, hI22, hI31, hI38, hI43, hI47, hI50, hI101, hI102, hI103, hI104, hI105, hI106, hI107, hI109, hI110, hI111, hI119, hs_jKept, hs_jBook, ht0, ht1, hr0, hr1⟩ := hAll
  have hL9 : (L : Int) ≤ 384 := by omega
  obtain ⟨i1, i2, w3⟩ : (0 ≤ (σ 38 0).toInt ∧ (σ 38 0).toInt ≤ 20) ∧ (0 ≤ (σ 38 1).toInt ∧ (σ 38 1).toInt ≤ 1000) ∧ (∀ k : Nat, k < 20 → 0 ≤ (σ 39 k).toInt ∧ (σ 39 k).toInt ≤ 6) := id hI38
  obtain ⟨i4, w5, w6, w7⟩ : (0 ≤ (σ 55 32).toInt ∧ (σ 55 32).toInt ≤ 20) ∧ (∀ k : Nat, k < 20 → 0 ≤ (σ 70 k).toInt ∧ (σ 70 k).toInt ≤ 6) ∧ (∀ k : Nat, k < 20 → 0 ≤ (σ 71 k).toInt ∧ (σ 71 k).toInt ≤ 8) ∧ (∀ k : Nat, k < 160 → 0 ≤ (σ 72 k).toInt ∧ (σ 72 k).toInt ≤ 3) := id hI106
  refine lv_aload_n hx hb dL_law_628 rfl (lv_at hl 2 rfl) ?_
  refine lv_aload_n hx hb dL_law_629 rfl (lv_at hl 3 rfl) ?_
  refine lv_iload_n hx hb dL_law_630 rfl (lv_at hl 0 rfl) ?_
  refine lv_iconst (v := 1) hx hb dL_law_631 (by decide) ?_
  have g8 := jrg (rfl : x0.toInt = x0.toInt)
  refine lv_iadd hx hb dL_law_632 ?_
  refine lv_topi (fun x9 ex9 => ?_)
  have tx9 : x9.toInt = x0.toInt + 1 := (jadd ex9 rfl jz_1 (by omega) (by omega)).trans (by omega)
  refine va_sld hx hb hX hbl hbA hS (jin tx9 (by omega) (by omega)) dL_law_633 ?_
  have g10 := jrg (rfl : (xs x9.toNatClampNeg).toInt = (xs x9.toNatClampNeg).toInt)
  refine lv_aload_n hx hb dL_law_634 rfl (lv_at hl 3 rfl) ?_
  refine lv_iload_n hx hb dL_law_635 rfl (lv_at hl 0 rfl) ?_
  refine lv_iconst (v := 2) hx hb dL_law_636 (by decide) ?_
  refine lv_iadd hx hb dL_law_637 ?_
  refine lv_topi (fun x11 ex11 => ?_)
  have tx11 : x11.toInt = x0.toInt + 2 := (jadd ex11 rfl jz_2 (by omega) (by omega)).trans (by omega)
  refine va_sld hx hb hX hbl hbA hS (jin tx11 (by omega) (by omega)) dL_law_638 ?_
  have g12 := jrg (rfl : (xs x11.toNatClampNeg).toInt = (xs x11.toNatClampNeg).toInt)
  refine jcallV (As := [.int (xs x9.toNatClampNeg), .int (xs x11.toNatClampNeg)]) (rest := []) ⟨hx, hb, hml, hown, hts⟩ hK hP hA hS hZ (c_X11_worth l D cI cL ad zz hJ σ τ (xs x9.toNatClampNeg) ((xs x9.toNatClampNeg).toInt) rfl (xs x11.toNatClampNeg) ((xs x11.toNatClampNeg).toInt) rfl hI2 hI16 hI22 hI31) cw_RL_73 (jc_0 cI cL ad σ τ) rfl ⟨Nat.le_of_ble_eq_true rfl, Nat.le_of_ble_eq_true rfl⟩ rfl rfl rfl hl.1 rfl (Nat.le_of_ble_eq_true rfl) dL_law_639 ⟨Nat.le_of_ble_eq_true rfl, Nat.le_of_ble_eq_true rfl⟩ (fun r14 σ13 τ13 H locs h13 hP hS => ?_)
  obtain ⟨rfl, f15, f16, I17, h13⟩ := h13
  refine lv_pop hx hb dL_law_642 rfl ?_
  refine lv_aload_n hx hb dL_law_643 rfl (lv_at hl 1 rfl) ?_
  refine lv_aload_n hx hb dL_law_644 rfl (lv_at hl 3 rfl) ?_
  refine lv_iload_n hx hb dL_law_645 rfl (lv_at hl 0 rfl) ?_
  refine lv_iconst (v := 1) hx hb dL_law_646 (by decide) ?_
  refine lv_iadd hx hb dL_law_647 ?_
  refine jtopr ex9.symm ?_
  refine va_sld hx hb hX hbl hbA hS (jin tx9 (by omega) (by omega)) dL_law_648 ?_
  refine lv_aload_n hx hb dL_law_649 rfl (lv_at hl 3 rfl) ?_
  refine lv_iload_n hx hb dL_law_650 rfl (lv_at hl 0 rfl) ?_
  refine lv_iconst (v := 2) hx hb dL_law_651 (by decide) ?_
  refine lv_iadd hx hb dL_law_652 ?_
  refine jtopr ex11.symm ?_
  refine va_sld hx hb hX hbl hbA hS (jin tx11 (by omega) (by omega)) dL_law_653 ?_
  have I19 : jI101 σ13 := jI101_fr (congrFun (f15 55 (by decide)) 4) (congrFun (f15 55 (by decide)) 5) (f15 56 (by decide)) (f15 57 (by decide)) (f15 58 (by decide)) (f15 59 (by decide)) hI101
  have I20 : jI102 σ13 := jI102_fr (congrFun (f15 55 (by decide)) 6) (f15 60 (by decide)) (f15 61 (by decide)) hI102
  have I21 : jI103 σ13 := jI103_fr (congrFun (f15 55 (by decide)) 9) hI103
  have I22 : jI104 σ13 := jI104_fr (congrFun (f15 55 (by decide)) 10) (congrFun (f15 55 (by decide)) 12) (congrFun (f15 55 (by decide)) 13) (f15 62 (by decide)) (f15 67 (by decide)) hI104
  have I23 : jI105 σ13 := jI105_fr (congrFun (f15 55 (by decide)) 15) (f15 65 (by decide)) hI105
  have I24 : jI106 σ13 := jI106_fr (congrFun (f15 55 (by decide)) 32) (f15 70 (by decide)) (f15 71 (by decide)) (f15 72 (by decide)) hI106
  have I25 : jI119 σ13 := jI119_fr (f15 68 (by decide)) hI119
  have p26 : jKept σ13 := jKept.fr (f15 75 (by decide)) (f15 76 (by decide)) (f15 77 (by decide)) hs_jKept
  have z27 : (σ13 55 30).toInt = (σ 55 30).toInt := (congrArg Int32.toInt (show σ13 55 30 = (σ 55 30) from (congrFun (f15 55 (by decide)) 30)))
  have z28 : (σ13 55 31).toInt = (σ 55 31).toInt := (congrArg Int32.toInt (show σ13 55 31 = (σ 55 31) from (congrFun (f15 55 (by decide)) 31)))
  refine jcallV (As := [.int (xs x9.toNatClampNeg), .int (xs x11.toNatClampNeg)]) (rest := []) ⟨hx, hb, hml, hown, hts⟩ hK hP hA hS hZ (c_X12_worth l D cI cL ad zz hJ σ13 τ (xs x9.toNatClampNeg) ((xs x9.toNatClampNeg).toInt) rfl (xs x11.toNatClampNeg) ((xs x11.toNatClampNeg).toInt) rfl I19 I20 I21 I22 I23 I24 I25 p26) cw_RL_76 (jc_55 cI cL ad σ13 τ) rfl ⟨Nat.le_of_ble_eq_true rfl, Nat.le_of_ble_eq_true rfl⟩ rfl rfl rfl hl.1 rfl (Nat.le_of_ble_eq_true rfl) dL_law_654 ⟨Nat.le_of_ble_eq_true rfl, Nat.le_of_ble_eq_true rfl⟩ (fun r30 σ29 τ29 H locs h29 hP hS => ?_)
  obtain ⟨rfl, f31, f32, I33, p34, h29⟩ := h29
  obtain ⟨k36, h29⟩ := h29
  refine lv_pop hx hb dL_law_657 rfl ?_
  refine lv_goto (tgt := 1357) hx hb dL_law_658 (by decide) ?_
  obtain ⟨x37, ex37⟩ : ∃ y : Int32, y = x0 + 6 := ⟨_, rfl⟩
  have tx37 : x37.toInt = x0.toInt + 6 := (jadd ex37 rfl jz_6 (by omega) (by omega)).trans (by omega)
  refine lv_iinc (v := x37) (lv' := [(3, .int x37), (2, .ref (ad 55)), (1, .ref (ad 0)), (0, .ref b)]) hx hb dL_law_1357 hl (k := 0) rfl (by rw [ex37]; rfl) (by decide) rfl (fun ls hl => ?_)
  refine lv_goto (tgt := 18) hx hb dL_law_1360 (by decide) ?_
  have I38 : jI2 σ29 := jI2_fr ((congrFun (f31 2 (by decide)) 0).trans (congrFun (f15 2 (by decide)) 0)) ((congrFun (f31 2 (by decide)) 1).trans (congrFun (f15 2 (by decide)) 1)) ((congrFun (f31 2 (by decide)) 2).trans (congrFun (f15 2 (by decide)) 2)) ((congrFun (f31 2 (by decide)) 3).trans (congrFun (f15 2 (by decide)) 3)) ((f31 6 (by decide)).trans (f15 6 (by decide))) hI2
  have I39 : jI9 σ29 := jI9_fr ((congrFun (f31 9 (by decide)) 0).trans (congrFun (f15 9 (by decide)) 0)) ((f31 10 (by decide)).trans (f15 10 (by decide))) ((f31 11 (by decide)).trans (f15 11 (by decide))) hI9
  have I40 : jI12 σ29 := jI12_fr ((congrFun (f31 12 (by decide)) 0).trans (congrFun (f15 12 (by decide)) 0)) ((f31 13 (by decide)).trans (f15 13 (by decide))) hI12
  have I41 : jI16 σ29 := jI16_fr ((congrFun (f31 16 (by decide)) 0).trans (congrFun (f15 16 (by decide)) 0)) ((congrFun (f31 16 (by decide)) 1).trans (congrFun (f15 16 (by decide)) 1)) ((congrFun (f31 16 (by decide)) 2).trans (congrFun (f15 16 (by decide)) 2)) ((f31 17 (by decide)).trans (f15 17 (by decide))) hI16
  have I42 : jI18 σ29 := jI18_fr ((congrFun (f31 18 (by decide)) 0).trans (congrFun (f15 18 (by decide)) 0)) ((f31 19 (by decide)).trans (f15 19 (by decide))) hI18
  have I43 : jI22 σ29 := jI22_fr ((congrFun (f31 22 (by decide)) 0).trans (congrFun (f15 22 (by decide)) 0)) ((f31 23 (by decide)).trans (f15 23 (by decide))) hI22
  have I44 : jI31 σ29 := jI31_fr (congrFun (f31 31 (by decide)) 8) (f31 33 (by decide)) (f31 36 (by decide)) I17
  have I45 : jI38 σ29 := jI38_fr ((congrFun (f31 38 (by decide)) 0).trans (congrFun (f15 38 (by decide)) 0)) ((congrFun (f31 38 (by decide)) 1).trans (congrFun (f15 38 (by decide)) 1)) ((f31 39 (by decide)).trans (f15 39 (by decide))) hI38
  have I46 : jI43 σ29 := jI43_fr ((congrFun (f31 43 (by decide)) 8).trans (congrFun (f15 43 (by decide)) 8)) hI43
  have I47 : jI47 σ29 := jI47_fr ((congrFun (f31 47 (by decide)) 0).trans (congrFun (f15 47 (by decide)) 0)) ((f31 48 (by decide)).trans (f15 48 (by decide))) ((f31 49 (by decide)).trans (f15 49 (by decide))) hI47
  have I48 : jI50 σ29 := jI50_fr ((f31 52 (by decide)).trans (f15 52 (by decide))) hI50
  have I49 : jI101 σ29 := jI101_fr (f32 4 (by decide)) (f32 5 (by decide)) (f31 56 (by decide)) (f31 57 (by decide)) (f31 58 (by decide)) (f31 59 (by decide)) I19
  have I50 : jI102 σ29 := jI102_fr (f32 6 (by decide)) (f31 60 (by decide)) (f31 61 (by decide)) I20
  have I51 : jI103 σ29 := jI103_fr (f32 9 (by decide)) I21
  have I52 : jI104 σ29 := jI104_fr (f32 10 (by decide)) (f32 12 (by decide)) (f32 13 (by decide)) (f31 62 (by decide)) (f31 67 (by decide)) I22
  have I53 : jI105 σ29 := jI105_fr (f32 15 (by decide)) (f31 65 (by decide)) I23
  have I54 : jI106 σ29 := jI106_fr (f32 32 (by decide)) (f31 70 (by decide)) (f31 71 (by decide)) (f31 72 (by decide)) I24
  have I55 : jI107 σ29 := jI107_fr ((f32 12 (by decide)).trans (congrFun (f15 55 (by decide)) 12)) ((f32 47 (by decide)).trans (congrFun (f15 55 (by decide)) 47)) ((f31 80 (by decide)).trans (f15 80 (by decide))) hI107
  have I56 : jI109 σ29 := jI109_fr ((f32 50 (by decide)).trans (congrFun (f15 55 (by decide)) 50)) hI109
  have I57 : jI110 σ29 := jI110_fr ((f31 86 (by decide)).trans (f15 86 (by decide))) ((f31 87 (by decide)).trans (f15 87 (by decide))) hI110
  have I58 : jI111 σ29 := jI111_fr ((f31 79 (by decide)).trans (f15 79 (by decide))) hI111
  have p59 : jBook σ29 := jBook.fr ((f32 47 (by decide)).trans (congrFun (f15 55 (by decide)) 47)) ((f32 10 (by decide)).trans (congrFun (f15 55 (by decide)) 10)) ((f31 81 (by decide)).trans (f15 81 (by decide))) hs_jBook
  have z60 : (σ29 38 0).toInt = (σ 38 0).toInt := (congrArg Int32.toInt (show σ29 38 0 = (σ 38 0) from ((congrFun (f31 38 (by decide)) 0).trans (congrFun (f15 38 (by decide)) 0))))
  have z61 : (σ29 55 32).toInt = (σ 55 32).toInt := (congrArg Int32.toInt (show σ29 55 32 = (σ 55 32) from ((f32 32 (by decide)).trans (congrFun (f15 55 (by decide)) 32))))
  have z62 : (σ29 38 1).toInt = (σ 38 1).toInt := (congrArg Int32.toInt (show σ29 38 1 = (σ 38 1) from ((congrFun (f31 38 (by decide)) 1).trans (congrFun (f15 38 (by decide)) 1))))
  have z63 : (σ29 55 55).toInt = (σ 55 55).toInt := (congrArg Int32.toInt (show σ29 55 55 = (σ 55 55) from ((f32 55 (by decide)).trans (congrFun (f15 55 (by decide)) 55))))
  exact ih x37 σ29 τ _ _ ls (by have h9 := tx37; omega) ⟨I38, I39, I40, I41, I42, I43, I44, I45, I46, I47, I48, I49, I50, I51, I52, I53, I54, I55, I56, I57, I58, I33, p34, p59, (by omega), (by omega), (show jKd (σ29 39) (σ29 70) (σ29 55 32).toInt by rw [show σ29 39 = σ 39 from ((f31 39 (by decide)).trans (f15 39 (by decide))), show σ29 70 = σ 70 from ((f31 70 (by decide)).trans (f15 70 (by decide))), show (σ29 55 32).toInt = (σ 55 32).toInt from by omega]; exact hr0), (show jTt (σ29 42) (σ29 85) (σ29 55 55).toInt by rw [show σ29 42 = σ 42 from ((f31 42 (by decide)).trans (f15 42 (by decide))), show σ29 85 = σ 85 from ((f31 85 (by decide)).trans (f15 85 (by decide))), show (σ29 55 55).toInt = (σ 55 55).toInt from by omega]; exact hr1)⟩ hP hS (lv_sub hl [0, 1, 2, 3] rfl)
set_option maxHeartbeats 4000000 in
set_option maxRecDepth 100000 in
theorem law_case_15 {p : Program} {e : Env} {s : State} {m : MethodId} {below : List Frame} {meth : Method} {c : Code} (l : Launch) {b L : Nat} {xs : Nat → Int32} {D : va_G} {cI cL : ClassId} {ad zz : Nat → Nat} (C0 : lw_At p s m meth c b L xs) (hJ : jD ad) (hA : ∀ q, jA ad q → s.heap.size ≤ q) (hK : jK D cI cL s) (hZ : jZ zz (fun q : Nat => s.heap.size ≤ q) s s.heap) {x0 : Int32} (hx0 : 0 ≤ x0.toInt) (hxL : x0.toInt + 6 ≤ (L : Int)) (hL : L ≤ 384) {σ : Nat → Nat → Int32} {τ : Nat → Nat → Int64} {H : Heap} {locs : List Loc} (hS : va_S (fun q : Nat => s.heap.size ≤ q) s.heap H locs) {ls : Array Slot} (hAll : jAll σ τ) (hP : jH D cI cL ad σ τ H) (hl : lv_has ls 4 [(3, .int x0), (2, .ref (ad 55)), (1, .ref (ad 0)), (0, .ref b)]) (ih : ∀ (x1 : Int32) (σ : Nat → Nat → Int32) (τ : Nat → Nat → Int64) (H : Heap) (locs : List Loc) (ls : Array Slot), x1.toInt = x0.toInt + 6 → jAll σ τ → jH D cI cL ad σ τ H → va_S (fun q : Nat => s.heap.size ≤ q) s.heap H locs → lv_has ls 4 [(3, .int x1), (2, .ref (ad 55)), (1, .ref (ad 0)), (0, .ref b)] → W p l e room_1 s m #[Value.ref b] below meth c H locs 90 348600 (lw_Z below #[Value.ref b] s) (F0 m 18 ls [])) : W p l e room_1 s m #[Value.ref b] below meth c H locs 90 348600 (lw_Z below #[Value.ref b] s) (F0 m 661 ls []) := by
  obtain ⟨hx, hb, hr, hml, hown, hts0, hX, hbl, hlocks, hgv⟩ := C0
  have hts : ∀ w ∈ wsL_law, w.before #[Value.ref b] s = true := fun w h => hts0 w (wsL_law_in w h)
  have hbA : ¬ (fun q : Nat => s.heap.size ≤ q) b := Nat.not_le.mpr hbl
  have hown : s.vm.findClass RL = some m.cls := hown
  obtain ⟨hI2, hI9, hI12, hI16, hI18, hI22, hI31, hI38, hI43, hI47, hI50, hI101, hI102, hI103, hI104, hI105, hI106, hI107, hI109, hI110, hI111, hI119, hs_jKept, hs_jBook, ht0, ht1, hr0, hr1⟩ := hAll
  have hL9 : (L : Int) ≤ 384 := by omega
  obtain ⟨i1, i2, w3⟩ : (0 ≤ (σ 38 0).toInt ∧ (σ 38 0).toInt ≤ 20) ∧ (0 ≤ (σ 38 1).toInt ∧ (σ 38 1).toInt ≤ 1000) ∧ (∀ k : Nat, k < 20 → 0 ≤ (σ 39 k).toInt ∧ (σ 39 k).toInt ≤ 6) := id hI38
  obtain ⟨i4, w5, w6, w7⟩ : (0 ≤ (σ 55 32).toInt ∧ (σ 55 32).toInt ≤ 20) ∧ (∀ k : Nat, k < 20 → 0 ≤ (σ 70 k).toInt ∧ (σ 70 k).toInt ≤ 6) ∧ (∀ k : Nat, k < 20 → 0 ≤ (σ 71 k).toInt ∧ (σ 71 k).toInt ≤ 8) ∧ (∀ k : Nat, k < 160 → 0 ≤ (σ 72 k).toInt ∧ (σ 72 k).toInt ≤ 3) := id hI106
  refine lv_aload_n hx hb dL_law_661 rfl (lv_at hl 2 rfl) ?_
  refine lv_aload_n hx hb dL_law_662 rfl (lv_at hl 3 rfl) ?_
  refine lv_iload_n hx hb dL_law_663 rfl (lv_at hl 0 rfl) ?_
  refine lv_iconst (v := 1) hx hb dL_law_664 (by decide) ?_
  have g8 := jrg (rfl : x0.toInt = x0.toInt)
  refine lv_iadd hx hb dL_law_665 ?_
  refine lv_topi (fun x9 ex9 => ?_)
  have tx9 : x9.toInt = x0.toInt + 1 := (jadd ex9 rfl jz_1 (by omega) (by omega)).trans (by omega)
  refine va_sld hx hb hX hbl hbA hS (jin tx9 (by omega) (by omega)) dL_law_666 ?_
  have g10 := jrg (rfl : (xs x9.toNatClampNeg).toInt = (xs x9.toNatClampNeg).toInt)
  refine lv_aload_n hx hb dL_law_667 rfl (lv_at hl 3 rfl) ?_
  refine lv_iload_n hx hb dL_law_668 rfl (lv_at hl 0 rfl) ?_
  refine lv_iconst (v := 2) hx hb dL_law_669 (by decide) ?_
  refine lv_iadd hx hb dL_law_670 ?_
  refine lv_topi (fun x11 ex11 => ?_)
  have tx11 : x11.toInt = x0.toInt + 2 := (jadd ex11 rfl jz_2 (by omega) (by omega)).trans (by omega)
  refine va_sld hx hb hX hbl hbA hS (jin tx11 (by omega) (by omega)) dL_law_671 ?_
  have g12 := jrg (rfl : (xs x11.toNatClampNeg).toInt = (xs x11.toNatClampNeg).toInt)
  refine jcallV (As := [.int (xs x9.toNatClampNeg), .int (xs x11.toNatClampNeg)]) (rest := []) ⟨hx, hb, hml, hown, hts⟩ hK hP hA hS hZ (c_X11_fielded l D cI cL ad zz hJ σ τ (xs x9.toNatClampNeg) ((xs x9.toNatClampNeg).toInt) rfl (xs x11.toNatClampNeg) ((xs x11.toNatClampNeg).toInt) rfl hI2 hI16 hI22 hI31) cw_RL_77 (jc_0 cI cL ad σ τ) rfl ⟨Nat.le_of_ble_eq_true rfl, Nat.le_of_ble_eq_true rfl⟩ rfl rfl rfl hl.1 rfl (Nat.le_of_ble_eq_true rfl) dL_law_672 ⟨Nat.le_of_ble_eq_true rfl, Nat.le_of_ble_eq_true rfl⟩ (fun r14 σ13 τ13 H locs h13 hP hS => ?_)
  obtain ⟨rfl, f15, f16, I17, h13⟩ := h13
  refine lv_pop hx hb dL_law_675 rfl ?_
  refine lv_aload_n hx hb dL_law_676 rfl (lv_at hl 1 rfl) ?_
  refine lv_aload_n hx hb dL_law_677 rfl (lv_at hl 3 rfl) ?_
  refine lv_iload_n hx hb dL_law_678 rfl (lv_at hl 0 rfl) ?_
  refine lv_iconst (v := 1) hx hb dL_law_679 (by decide) ?_
  refine lv_iadd hx hb dL_law_680 ?_
  refine jtopr ex9.symm ?_
  refine va_sld hx hb hX hbl hbA hS (jin tx9 (by omega) (by omega)) dL_law_681 ?_
  refine lv_aload_n hx hb dL_law_682 rfl (lv_at hl 3 rfl) ?_
  refine lv_iload_n hx hb dL_law_683 rfl (lv_at hl 0 rfl) ?_
  refine lv_iconst (v := 2) hx hb dL_law_684 (by decide) ?_
  refine lv_iadd hx hb dL_law_685 ?_
  refine jtopr ex11.symm ?_
  refine va_sld hx hb hX hbl hbA hS (jin tx11 (by omega) (by omega)) dL_law_686 ?_
  have I19 : jI101 σ13 := jI101_fr (congrFun (f15 55 (by decide)) 4) (congrFun (f15 55 (by decide)) 5) (f15 56 (by decide)) (f15 57 (by decide)) (f15 58 (by decide)) (f15 59 (by decide)) hI101
  have I20 : jI102 σ13 := jI102_fr (congrFun (f15 55 (by decide)) 6) (f15 60 (by decide)) (f15 61 (by decide)) hI102
  have I21 : jI103 σ13 := jI103_fr (congrFun (f15 55 (by decide)) 9) hI103
  have I22 : jI104 σ13 := jI104_fr (congrFun (f15 55 (by decide)) 10) (congrFun (f15 55 (by decide)) 12) (congrFun (f15 55 (by decide)) 13) (f15 62 (by decide)) (f15 67 (by decide)) hI104
  have I23 : jI105 σ13 := jI105_fr (congrFun (f15 55 (by decide)) 15) (f15 65 (by decide)) hI105
  have I24 : jI106 σ13 := jI106_fr (congrFun (f15 55 (by decide)) 32) (f15 70 (by decide)) (f15 71 (by decide)) (f15 72 (by decide)) hI106
  have I25 : jI119 σ13 := jI119_fr (f15 68 (by decide)) hI119
  have p26 : jKept σ13 := jKept.fr (f15 75 (by decide)) (f15 76 (by decide)) (f15 77 (by decide)) hs_jKept
  have z27 : (σ13 55 9).toInt = (σ 55 9).toInt := (congrArg Int32.toInt (show σ13 55 9 = (σ 55 9) from (congrFun (f15 55 (by decide)) 9)))
  refine jcallV (As := [.int (xs x9.toNatClampNeg), .int (xs x11.toNatClampNeg)]) (rest := []) ⟨hx, hb, hml, hown, hts⟩ hK hP hA hS hZ (c_X12_fielded l D cI cL ad zz hJ σ13 τ (xs x9.toNatClampNeg) ((xs x9.toNatClampNeg).toInt) rfl (xs x11.toNatClampNeg) ((xs x11.toNatClampNeg).toInt) rfl I19 I20 I21 I22 I23 I24 I25 p26) cw_RL_80 (jc_55 cI cL ad σ13 τ) rfl ⟨Nat.le_of_ble_eq_true rfl, Nat.le_of_ble_eq_true rfl⟩ rfl rfl rfl hl.1 rfl (Nat.le_of_ble_eq_true rfl) dL_law_687 ⟨Nat.le_of_ble_eq_true rfl, Nat.le_of_ble_eq_true rfl⟩ (fun r29 σ28 τ28 H locs h28 hP hS => ?_)
  obtain ⟨rfl, f30, f31, I32, I33, p34, h28⟩ := h28
  obtain ⟨k36, h28⟩ := h28
  refine lv_pop hx hb dL_law_690 rfl ?_
  refine lv_goto (tgt := 1357) hx hb dL_law_691 (by decide) ?_
  obtain ⟨x37, ex37⟩ : ∃ y : Int32, y = x0 + 6 := ⟨_, rfl⟩
  have tx37 : x37.toInt = x0.toInt + 6 := (jadd ex37 rfl jz_6 (by omega) (by omega)).trans (by omega)
  refine lv_iinc (v := x37) (lv' := [(3, .int x37), (2, .ref (ad 55)), (1, .ref (ad 0)), (0, .ref b)]) hx hb dL_law_1357 hl (k := 0) rfl (by rw [ex37]; rfl) (by decide) rfl (fun ls hl => ?_)
  refine lv_goto (tgt := 18) hx hb dL_law_1360 (by decide) ?_
  have I38 : jI2 σ28 := jI2_fr ((congrFun (f30 2 (by decide)) 0).trans (congrFun (f15 2 (by decide)) 0)) ((congrFun (f30 2 (by decide)) 1).trans (congrFun (f15 2 (by decide)) 1)) ((congrFun (f30 2 (by decide)) 2).trans (congrFun (f15 2 (by decide)) 2)) ((congrFun (f30 2 (by decide)) 3).trans (congrFun (f15 2 (by decide)) 3)) ((f30 6 (by decide)).trans (f15 6 (by decide))) hI2
  have I39 : jI9 σ28 := jI9_fr ((congrFun (f30 9 (by decide)) 0).trans (congrFun (f15 9 (by decide)) 0)) ((f30 10 (by decide)).trans (f15 10 (by decide))) ((f30 11 (by decide)).trans (f15 11 (by decide))) hI9
  have I40 : jI12 σ28 := jI12_fr ((congrFun (f30 12 (by decide)) 0).trans (congrFun (f15 12 (by decide)) 0)) ((f30 13 (by decide)).trans (f15 13 (by decide))) hI12
  have I41 : jI16 σ28 := jI16_fr ((congrFun (f30 16 (by decide)) 0).trans (congrFun (f15 16 (by decide)) 0)) ((congrFun (f30 16 (by decide)) 1).trans (congrFun (f15 16 (by decide)) 1)) ((congrFun (f30 16 (by decide)) 2).trans (congrFun (f15 16 (by decide)) 2)) ((f30 17 (by decide)).trans (f15 17 (by decide))) hI16
  have I42 : jI18 σ28 := jI18_fr ((congrFun (f30 18 (by decide)) 0).trans (congrFun (f15 18 (by decide)) 0)) ((f30 19 (by decide)).trans (f15 19 (by decide))) hI18
  have I43 : jI22 σ28 := jI22_fr ((congrFun (f30 22 (by decide)) 0).trans (congrFun (f15 22 (by decide)) 0)) ((f30 23 (by decide)).trans (f15 23 (by decide))) hI22
  have I44 : jI31 σ28 := jI31_fr (congrFun (f30 31 (by decide)) 8) (f30 33 (by decide)) (f30 36 (by decide)) I17
  have I45 : jI38 σ28 := jI38_fr ((congrFun (f30 38 (by decide)) 0).trans (congrFun (f15 38 (by decide)) 0)) ((congrFun (f30 38 (by decide)) 1).trans (congrFun (f15 38 (by decide)) 1)) ((f30 39 (by decide)).trans (f15 39 (by decide))) hI38
  have I46 : jI43 σ28 := jI43_fr ((congrFun (f30 43 (by decide)) 8).trans (congrFun (f15 43 (by decide)) 8)) hI43
  have I47 : jI47 σ28 := jI47_fr ((congrFun (f30 47 (by decide)) 0).trans (congrFun (f15 47 (by decide)) 0)) ((f30 48 (by decide)).trans (f15 48 (by decide))) ((f30 49 (by decide)).trans (f15 49 (by decide))) hI47
  have I48 : jI50 σ28 := jI50_fr ((f30 52 (by decide)).trans (f15 52 (by decide))) hI50
  have I49 : jI101 σ28 := jI101_fr (f31 4 (by decide)) (f31 5 (by decide)) (f30 56 (by decide)) (f30 57 (by decide)) (f30 58 (by decide)) (f30 59 (by decide)) I19
  have I50 : jI102 σ28 := jI102_fr (f31 6 (by decide)) (f30 60 (by decide)) (f30 61 (by decide)) I20
  have I51 : jI104 σ28 := jI104_fr (f31 10 (by decide)) (f31 12 (by decide)) (f31 13 (by decide)) (f30 62 (by decide)) (f30 67 (by decide)) I22
  have I52 : jI105 σ28 := jI105_fr (f31 15 (by decide)) (f30 65 (by decide)) I23
  have I53 : jI106 σ28 := jI106_fr (f31 32 (by decide)) (f30 70 (by decide)) (f30 71 (by decide)) (f30 72 (by decide)) I24
  have I54 : jI107 σ28 := jI107_fr ((f31 12 (by decide)).trans (congrFun (f15 55 (by decide)) 12)) ((f31 47 (by decide)).trans (congrFun (f15 55 (by decide)) 47)) ((f30 80 (by decide)).trans (f15 80 (by decide))) hI107
  have I55 : jI109 σ28 := jI109_fr ((f31 50 (by decide)).trans (congrFun (f15 55 (by decide)) 50)) hI109
  have I56 : jI110 σ28 := jI110_fr ((f30 86 (by decide)).trans (f15 86 (by decide))) ((f30 87 (by decide)).trans (f15 87 (by decide))) hI110
  have I57 : jI111 σ28 := jI111_fr ((f30 79 (by decide)).trans (f15 79 (by decide))) hI111
  have p58 : jBook σ28 := jBook.fr ((f31 47 (by decide)).trans (congrFun (f15 55 (by decide)) 47)) ((f31 10 (by decide)).trans (congrFun (f15 55 (by decide)) 10)) ((f30 81 (by decide)).trans (f15 81 (by decide))) hs_jBook
  have z59 : (σ28 38 0).toInt = (σ 38 0).toInt := (congrArg Int32.toInt (show σ28 38 0 = (σ 38 0) from ((congrFun (f30 38 (by decide)) 0).trans (congrFun (f15 38 (by decide)) 0))))
  have z60 : (σ28 55 32).toInt = (σ 55 32).toInt := (congrArg Int32.toInt (show σ28 55 32 = (σ 55 32) from ((f31 32 (by decide)).trans (congrFun (f15 55 (by decide)) 32))))
  have z61 : (σ28 38 1).toInt = (σ 38 1).toInt := (congrArg Int32.toInt (show σ28 38 1 = (σ 38 1) from ((congrFun (f30 38 (by decide)) 1).trans (congrFun (f15 38 (by decide)) 1))))
  have z62 : (σ28 55 55).toInt = (σ 55 55).toInt := (congrArg Int32.toInt (show σ28 55 55 = (σ 55 55) from ((f31 55 (by decide)).trans (congrFun (f15 55 (by decide)) 55))))
  exact ih x37 σ28 τ _ _ ls (by have h9 := tx37; omega) ⟨I38, I39, I40, I41, I42, I43, I44, I45, I46, I47, I48, I49, I50, I32, I51, I52, I53, I54, I55, I56, I57, I33, p34, p58, (by omega), (by omega), (show jKd (σ28 39) (σ28 70) (σ28 55 32).toInt by rw [show σ28 39 = σ 39 from ((f30 39 (by decide)).trans (f15 39 (by decide))), show σ28 70 = σ 70 from ((f30 70 (by decide)).trans (f15 70 (by decide))), show (σ28 55 32).toInt = (σ 55 32).toInt from by omega]; exact hr0), (show jTt (σ28 42) (σ28 85) (σ28 55 55).toInt by rw [show σ28 42 = σ 42 from ((f30 42 (by decide)).trans (f15 42 (by decide))), show σ28 85 = σ 85 from ((f30 85 (by decide)).trans (f15 85 (by decide))), show (σ28 55 55).toInt = (σ 55 55).toInt from by omega]; exact hr1)⟩ hP hS (lv_sub hl [0, 1, 2, 3] rfl)
set_option maxHeartbeats 4000000 in
set_option maxRecDepth 100000 in
theorem law_case_16 {p : Program} {e : Env} {s : State} {m : MethodId} {below : List Frame} {meth : Method} {c : Code} (l : Launch) {b L : Nat} {xs : Nat → Int32} {D : va_G} {cI cL : ClassId} {ad zz : Nat → Nat} (C0 : lw_At p s m meth c b L xs) (hJ : jD ad) (hA : ∀ q, jA ad q → s.heap.size ≤ q) (hK : jK D cI cL s) (hZ : jZ zz (fun q : Nat => s.heap.size ≤ q) s s.heap) {x0 : Int32} (hx0 : 0 ≤ x0.toInt) (hxL : x0.toInt + 6 ≤ (L : Int)) (hL : L ≤ 384) {σ : Nat → Nat → Int32} {τ : Nat → Nat → Int64} {H : Heap} {locs : List Loc} (hS : va_S (fun q : Nat => s.heap.size ≤ q) s.heap H locs) {ls : Array Slot} (hAll : jAll σ τ) (hP : jH D cI cL ad σ τ H) (hl : lv_has ls 4 [(3, .int x0), (2, .ref (ad 55)), (1, .ref (ad 0)), (0, .ref b)]) (ih : ∀ (x1 : Int32) (σ : Nat → Nat → Int32) (τ : Nat → Nat → Int64) (H : Heap) (locs : List Loc) (ls : Array Slot), x1.toInt = x0.toInt + 6 → jAll σ τ → jH D cI cL ad σ τ H → va_S (fun q : Nat => s.heap.size ≤ q) s.heap H locs → lv_has ls 4 [(3, .int x1), (2, .ref (ad 55)), (1, .ref (ad 0)), (0, .ref b)] → W p l e room_1 s m #[Value.ref b] below meth c H locs 90 348600 (lw_Z below #[Value.ref b] s) (F0 m 18 ls [])) : W p l e room_1 s m #[Value.ref b] below meth c H locs 90 348600 (lw_Z below #[Value.ref b] s) (F0 m 694 ls []) := by
  obtain ⟨hx, hb, hr, hml, hown, hts0, hX, hbl, hlocks, hgv⟩ := C0
  have hts : ∀ w ∈ wsL_law, w.before #[Value.ref b] s = true := fun w h => hts0 w (wsL_law_in w h)
  have hbA : ¬ (fun q : Nat => s.heap.size ≤ q) b := Nat.not_le.mpr hbl
  have hown : s.vm.findClass RL = some m.cls := hown
  obtain ⟨hI2, hI9, hI12, hI16, hI18, hI22, hI31, hI38, hI43, hI47, hI50, hI101, hI102, hI103, hI104, hI105, hI106, hI107, hI109, hI110, hI111, hI119, hs_jKept, hs_jBook, ht0, ht1, hr0, hr1⟩ := hAll
  have hL9 : (L : Int) ≤ 384 := by omega
  obtain ⟨i1, i2, w3⟩ : (0 ≤ (σ 38 0).toInt ∧ (σ 38 0).toInt ≤ 20) ∧ (0 ≤ (σ 38 1).toInt ∧ (σ 38 1).toInt ≤ 1000) ∧ (∀ k : Nat, k < 20 → 0 ≤ (σ 39 k).toInt ∧ (σ 39 k).toInt ≤ 6) := id hI38
  obtain ⟨i4, w5, w6, w7⟩ : (0 ≤ (σ 55 32).toInt ∧ (σ 55 32).toInt ≤ 20) ∧ (∀ k : Nat, k < 20 → 0 ≤ (σ 70 k).toInt ∧ (σ 70 k).toInt ≤ 6) ∧ (∀ k : Nat, k < 20 → 0 ≤ (σ 71 k).toInt ∧ (σ 71 k).toInt ≤ 8) ∧ (∀ k : Nat, k < 160 → 0 ≤ (σ 72 k).toInt ∧ (σ 72 k).toInt ≤ 3) := id hI106
  refine lv_aload_n hx hb dL_law_694 rfl (lv_at hl 2 rfl) ?_
  refine lv_aload_n hx hb dL_law_695 rfl (lv_at hl 3 rfl) ?_
  refine lv_iload_n hx hb dL_law_696 rfl (lv_at hl 0 rfl) ?_
  refine lv_iconst (v := 1) hx hb dL_law_697 (by decide) ?_
  have g8 := jrg (rfl : x0.toInt = x0.toInt)
  refine lv_iadd hx hb dL_law_698 ?_
  refine lv_topi (fun x9 ex9 => ?_)
  have tx9 : x9.toInt = x0.toInt + 1 := (jadd ex9 rfl jz_1 (by omega) (by omega)).trans (by omega)
  refine va_sld hx hb hX hbl hbA hS (jin tx9 (by omega) (by omega)) dL_law_699 ?_
  have g10 := jrg (rfl : (xs x9.toNatClampNeg).toInt = (xs x9.toNatClampNeg).toInt)
  refine jcallV (As := [.int (xs x9.toNatClampNeg)]) (rest := []) ⟨hx, hb, hml, hown, hts⟩ hK hP hA hS hZ (c_X11_kept l D cI cL ad zz hJ σ τ (xs x9.toNatClampNeg) ((xs x9.toNatClampNeg).toInt) rfl hI2 hI16 hI22 hI31) cw_RL_81 (jc_0 cI cL ad σ τ) rfl ⟨Nat.le_of_ble_eq_true rfl, Nat.le_of_ble_eq_true rfl⟩ rfl rfl rfl hl.1 rfl (Nat.le_of_ble_eq_true rfl) dL_law_700 ⟨Nat.le_of_ble_eq_true rfl, Nat.le_of_ble_eq_true rfl⟩ (fun r12 σ11 τ11 H locs h11 hP hS => ?_)
  obtain ⟨rfl, f13, f14, I15, h11⟩ := h11
  refine lv_pop hx hb dL_law_703 rfl ?_
  refine lv_aload_n hx hb dL_law_704 rfl (lv_at hl 1 rfl) ?_
  refine lv_aload_n hx hb dL_law_705 rfl (lv_at hl 3 rfl) ?_
  refine lv_iload_n hx hb dL_law_706 rfl (lv_at hl 0 rfl) ?_
  refine lv_iconst (v := 1) hx hb dL_law_707 (by decide) ?_
  refine lv_iadd hx hb dL_law_708 ?_
  refine jtopr ex9.symm ?_
  refine va_sld hx hb hX hbl hbA hS (jin tx9 (by omega) (by omega)) dL_law_709 ?_
  have I17 : jI101 σ11 := jI101_fr (congrFun (f13 55 (by decide)) 4) (congrFun (f13 55 (by decide)) 5) (f13 56 (by decide)) (f13 57 (by decide)) (f13 58 (by decide)) (f13 59 (by decide)) hI101
  have I18 : jI102 σ11 := jI102_fr (congrFun (f13 55 (by decide)) 6) (f13 60 (by decide)) (f13 61 (by decide)) hI102
  have I19 : jI103 σ11 := jI103_fr (congrFun (f13 55 (by decide)) 9) hI103
  have I20 : jI104 σ11 := jI104_fr (congrFun (f13 55 (by decide)) 10) (congrFun (f13 55 (by decide)) 12) (congrFun (f13 55 (by decide)) 13) (f13 62 (by decide)) (f13 67 (by decide)) hI104
  have I21 : jI105 σ11 := jI105_fr (congrFun (f13 55 (by decide)) 15) (f13 65 (by decide)) hI105
  have I22 : jI106 σ11 := jI106_fr (congrFun (f13 55 (by decide)) 32) (f13 70 (by decide)) (f13 71 (by decide)) (f13 72 (by decide)) hI106
  have I23 : jI119 σ11 := jI119_fr (f13 68 (by decide)) hI119
  have p24 : jKept σ11 := jKept.fr (f13 75 (by decide)) (f13 76 (by decide)) (f13 77 (by decide)) hs_jKept
  refine jcallV (As := [.int (xs x9.toNatClampNeg)]) (rest := []) ⟨hx, hb, hml, hown, hts⟩ hK hP hA hS hZ (c_X12_kept l D cI cL ad zz hJ σ11 τ (xs x9.toNatClampNeg) ((xs x9.toNatClampNeg).toInt) rfl I17 I18 I19 I20 I21 I22 I23 p24) cw_RL_84 (jc_55 cI cL ad σ11 τ) rfl ⟨Nat.le_of_ble_eq_true rfl, Nat.le_of_ble_eq_true rfl⟩ rfl rfl rfl hl.1 rfl (Nat.le_of_ble_eq_true rfl) dL_law_710 ⟨Nat.le_of_ble_eq_true rfl, Nat.le_of_ble_eq_true rfl⟩ (fun r26 σ25 τ25 H locs h25 hP hS => ?_)
  obtain ⟨rfl, f27, f28, I29, p30, h25⟩ := h25
  refine lv_pop hx hb dL_law_713 rfl ?_
  refine lv_goto (tgt := 1357) hx hb dL_law_714 (by decide) ?_
  obtain ⟨x32, ex32⟩ : ∃ y : Int32, y = x0 + 6 := ⟨_, rfl⟩
  have tx32 : x32.toInt = x0.toInt + 6 := (jadd ex32 rfl jz_6 (by omega) (by omega)).trans (by omega)
  refine lv_iinc (v := x32) (lv' := [(3, .int x32), (2, .ref (ad 55)), (1, .ref (ad 0)), (0, .ref b)]) hx hb dL_law_1357 hl (k := 0) rfl (by rw [ex32]; rfl) (by decide) rfl (fun ls hl => ?_)
  refine lv_goto (tgt := 18) hx hb dL_law_1360 (by decide) ?_
  have I33 : jI2 σ25 := jI2_fr ((congrFun (f27 2 (by decide)) 0).trans (congrFun (f13 2 (by decide)) 0)) ((congrFun (f27 2 (by decide)) 1).trans (congrFun (f13 2 (by decide)) 1)) ((congrFun (f27 2 (by decide)) 2).trans (congrFun (f13 2 (by decide)) 2)) ((congrFun (f27 2 (by decide)) 3).trans (congrFun (f13 2 (by decide)) 3)) ((f27 6 (by decide)).trans (f13 6 (by decide))) hI2
  have I34 : jI9 σ25 := jI9_fr ((congrFun (f27 9 (by decide)) 0).trans (congrFun (f13 9 (by decide)) 0)) ((f27 10 (by decide)).trans (f13 10 (by decide))) ((f27 11 (by decide)).trans (f13 11 (by decide))) hI9
  have I35 : jI12 σ25 := jI12_fr ((congrFun (f27 12 (by decide)) 0).trans (congrFun (f13 12 (by decide)) 0)) ((f27 13 (by decide)).trans (f13 13 (by decide))) hI12
  have I36 : jI16 σ25 := jI16_fr ((congrFun (f27 16 (by decide)) 0).trans (congrFun (f13 16 (by decide)) 0)) ((congrFun (f27 16 (by decide)) 1).trans (congrFun (f13 16 (by decide)) 1)) ((congrFun (f27 16 (by decide)) 2).trans (congrFun (f13 16 (by decide)) 2)) ((f27 17 (by decide)).trans (f13 17 (by decide))) hI16
  have I37 : jI18 σ25 := jI18_fr ((congrFun (f27 18 (by decide)) 0).trans (congrFun (f13 18 (by decide)) 0)) ((f27 19 (by decide)).trans (f13 19 (by decide))) hI18
  have I38 : jI22 σ25 := jI22_fr ((congrFun (f27 22 (by decide)) 0).trans (congrFun (f13 22 (by decide)) 0)) ((f27 23 (by decide)).trans (f13 23 (by decide))) hI22
  have I39 : jI31 σ25 := jI31_fr (congrFun (f27 31 (by decide)) 8) (f27 33 (by decide)) (f27 36 (by decide)) I15
  have I40 : jI38 σ25 := jI38_fr ((congrFun (f27 38 (by decide)) 0).trans (congrFun (f13 38 (by decide)) 0)) ((congrFun (f27 38 (by decide)) 1).trans (congrFun (f13 38 (by decide)) 1)) ((f27 39 (by decide)).trans (f13 39 (by decide))) hI38
  have I41 : jI43 σ25 := jI43_fr ((congrFun (f27 43 (by decide)) 8).trans (congrFun (f13 43 (by decide)) 8)) hI43
  have I42 : jI47 σ25 := jI47_fr ((congrFun (f27 47 (by decide)) 0).trans (congrFun (f13 47 (by decide)) 0)) ((f27 48 (by decide)).trans (f13 48 (by decide))) ((f27 49 (by decide)).trans (f13 49 (by decide))) hI47
  have I43 : jI50 σ25 := jI50_fr ((f27 52 (by decide)).trans (f13 52 (by decide))) hI50
  have I44 : jI101 σ25 := jI101_fr (f28 4 (by decide)) (f28 5 (by decide)) (f27 56 (by decide)) (f27 57 (by decide)) (f27 58 (by decide)) (f27 59 (by decide)) I17
  have I45 : jI102 σ25 := jI102_fr (f28 6 (by decide)) (f27 60 (by decide)) (f27 61 (by decide)) I18
  have I46 : jI103 σ25 := jI103_fr (f28 9 (by decide)) I19
  have I47 : jI104 σ25 := jI104_fr (f28 10 (by decide)) (f28 12 (by decide)) (f28 13 (by decide)) (f27 62 (by decide)) (f27 67 (by decide)) I20
  have I48 : jI105 σ25 := jI105_fr (f28 15 (by decide)) (f27 65 (by decide)) I21
  have I49 : jI106 σ25 := jI106_fr (f28 32 (by decide)) (f27 70 (by decide)) (f27 71 (by decide)) (f27 72 (by decide)) I22
  have I50 : jI107 σ25 := jI107_fr ((f28 12 (by decide)).trans (congrFun (f13 55 (by decide)) 12)) ((f28 47 (by decide)).trans (congrFun (f13 55 (by decide)) 47)) ((f27 80 (by decide)).trans (f13 80 (by decide))) hI107
  have I51 : jI109 σ25 := jI109_fr ((f28 50 (by decide)).trans (congrFun (f13 55 (by decide)) 50)) hI109
  have I52 : jI110 σ25 := jI110_fr ((f27 86 (by decide)).trans (f13 86 (by decide))) ((f27 87 (by decide)).trans (f13 87 (by decide))) hI110
  have I53 : jI111 σ25 := jI111_fr ((f27 79 (by decide)).trans (f13 79 (by decide))) hI111
  have p54 : jBook σ25 := jBook.fr ((f28 47 (by decide)).trans (congrFun (f13 55 (by decide)) 47)) ((f28 10 (by decide)).trans (congrFun (f13 55 (by decide)) 10)) ((f27 81 (by decide)).trans (f13 81 (by decide))) hs_jBook
  have z55 : (σ25 38 0).toInt = (σ 38 0).toInt := (congrArg Int32.toInt (show σ25 38 0 = (σ 38 0) from ((congrFun (f27 38 (by decide)) 0).trans (congrFun (f13 38 (by decide)) 0))))
  have z56 : (σ25 55 32).toInt = (σ 55 32).toInt := (congrArg Int32.toInt (show σ25 55 32 = (σ 55 32) from ((f28 32 (by decide)).trans (congrFun (f13 55 (by decide)) 32))))
  have z57 : (σ25 38 1).toInt = (σ 38 1).toInt := (congrArg Int32.toInt (show σ25 38 1 = (σ 38 1) from ((congrFun (f27 38 (by decide)) 1).trans (congrFun (f13 38 (by decide)) 1))))
  have z58 : (σ25 55 55).toInt = (σ 55 55).toInt := (congrArg Int32.toInt (show σ25 55 55 = (σ 55 55) from ((f28 55 (by decide)).trans (congrFun (f13 55 (by decide)) 55))))
  exact ih x32 σ25 τ _ _ ls (by have h9 := tx32; omega) ⟨I33, I34, I35, I36, I37, I38, I39, I40, I41, I42, I43, I44, I45, I46, I47, I48, I49, I50, I51, I52, I53, I29, p30, p54, (by omega), (by omega), (show jKd (σ25 39) (σ25 70) (σ25 55 32).toInt by rw [show σ25 39 = σ 39 from ((f27 39 (by decide)).trans (f13 39 (by decide))), show σ25 70 = σ 70 from ((f27 70 (by decide)).trans (f13 70 (by decide))), show (σ25 55 32).toInt = (σ 55 32).toInt from by omega]; exact hr0), (show jTt (σ25 42) (σ25 85) (σ25 55 55).toInt by rw [show σ25 42 = σ 42 from ((f27 42 (by decide)).trans (f13 42 (by decide))), show σ25 85 = σ 85 from ((f27 85 (by decide)).trans (f13 85 (by decide))), show (σ25 55 55).toInt = (σ 55 55).toInt from by omega]; exact hr1)⟩ hP hS (lv_sub hl [0, 1, 2, 3] rfl)
set_option maxHeartbeats 4000000 in
set_option maxRecDepth 100000 in
theorem law_case_17 {p : Program} {e : Env} {s : State} {m : MethodId} {below : List Frame} {meth : Method} {c : Code} (l : Launch) {b L : Nat} {xs : Nat → Int32} {D : va_G} {cI cL : ClassId} {ad zz : Nat → Nat} (C0 : lw_At p s m meth c b L xs) (hJ : jD ad) (hA : ∀ q, jA ad q → s.heap.size ≤ q) (hK : jK D cI cL s) (hZ : jZ zz (fun q : Nat => s.heap.size ≤ q) s s.heap) {x0 : Int32} (hx0 : 0 ≤ x0.toInt) (hxL : x0.toInt + 6 ≤ (L : Int)) (hL : L ≤ 384) {σ : Nat → Nat → Int32} {τ : Nat → Nat → Int64} {H : Heap} {locs : List Loc} (hS : va_S (fun q : Nat => s.heap.size ≤ q) s.heap H locs) {ls : Array Slot} (hAll : jAll σ τ) (hP : jH D cI cL ad σ τ H) (hl : lv_has ls 4 [(3, .int x0), (2, .ref (ad 55)), (1, .ref (ad 0)), (0, .ref b)]) (ih : ∀ (x1 : Int32) (σ : Nat → Nat → Int32) (τ : Nat → Nat → Int64) (H : Heap) (locs : List Loc) (ls : Array Slot), x1.toInt = x0.toInt + 6 → jAll σ τ → jH D cI cL ad σ τ H → va_S (fun q : Nat => s.heap.size ≤ q) s.heap H locs → lv_has ls 4 [(3, .int x1), (2, .ref (ad 55)), (1, .ref (ad 0)), (0, .ref b)] → W p l e room_1 s m #[Value.ref b] below meth c H locs 90 348600 (lw_Z below #[Value.ref b] s) (F0 m 18 ls [])) : W p l e room_1 s m #[Value.ref b] below meth c H locs 90 348600 (lw_Z below #[Value.ref b] s) (F0 m 717 ls []) := by
  obtain ⟨hx, hb, hr, hml, hown, hts0, hX, hbl, hlocks, hgv⟩ := C0
  have hts : ∀ w ∈ wsL_law, w.before #[Value.ref b] s = true := fun w h => hts0 w (wsL_law_in w h)
  have hbA : ¬ (fun q : Nat => s.heap.size ≤ q) b := Nat.not_le.mpr hbl
  have hown : s.vm.findClass RL = some m.cls := hown
  obtain ⟨hI2, hI9, hI12, hI16, hI18, hI22, hI31, hI38, hI43, hI47, hI50, hI101, hI102, hI103, hI104, hI105, hI106, hI107, hI109, hI110, hI111, hI119, hs_jKept, hs_jBook, ht0, ht1, hr0, hr1⟩ := hAll
  have hL9 : (L : Int) ≤ 384 := by omega
  obtain ⟨i1, i2, w3⟩ : (0 ≤ (σ 38 0).toInt ∧ (σ 38 0).toInt ≤ 20) ∧ (0 ≤ (σ 38 1).toInt ∧ (σ 38 1).toInt ≤ 1000) ∧ (∀ k : Nat, k < 20 → 0 ≤ (σ 39 k).toInt ∧ (σ 39 k).toInt ≤ 6) := id hI38
  obtain ⟨i4, w5, w6, w7⟩ : (0 ≤ (σ 55 32).toInt ∧ (σ 55 32).toInt ≤ 20) ∧ (∀ k : Nat, k < 20 → 0 ≤ (σ 70 k).toInt ∧ (σ 70 k).toInt ≤ 6) ∧ (∀ k : Nat, k < 20 → 0 ≤ (σ 71 k).toInt ∧ (σ 71 k).toInt ≤ 8) ∧ (∀ k : Nat, k < 160 → 0 ≤ (σ 72 k).toInt ∧ (σ 72 k).toInt ≤ 3) := id hI106
  refine lv_aload_n hx hb dL_law_717 rfl (lv_at hl 2 rfl) ?_
  refine lv_aload_n hx hb dL_law_718 rfl (lv_at hl 3 rfl) ?_
  refine lv_iload_n hx hb dL_law_719 rfl (lv_at hl 0 rfl) ?_
  refine lv_iconst (v := 1) hx hb dL_law_720 (by decide) ?_
  have g8 := jrg (rfl : x0.toInt = x0.toInt)
  refine lv_iadd hx hb dL_law_721 ?_
  refine lv_topi (fun x9 ex9 => ?_)
  have tx9 : x9.toInt = x0.toInt + 1 := (jadd ex9 rfl jz_1 (by omega) (by omega)).trans (by omega)
  refine va_sld hx hb hX hbl hbA hS (jin tx9 (by omega) (by omega)) dL_law_722 ?_
  have g10 := jrg (rfl : (xs x9.toNatClampNeg).toInt = (xs x9.toNatClampNeg).toInt)
  refine jcallV (As := [.int (xs x9.toNatClampNeg)]) (rest := []) ⟨hx, hb, hml, hown, hts⟩ hK hP hA hS hZ (c_X11_theirs l D cI cL ad zz hJ σ τ (xs x9.toNatClampNeg) ((xs x9.toNatClampNeg).toInt) rfl hI2 hI16 hI22 hI31) cw_RL_85 (jc_0 cI cL ad σ τ) rfl ⟨Nat.le_of_ble_eq_true rfl, Nat.le_of_ble_eq_true rfl⟩ rfl rfl rfl hl.1 rfl (Nat.le_of_ble_eq_true rfl) dL_law_723 ⟨Nat.le_of_ble_eq_true rfl, Nat.le_of_ble_eq_true rfl⟩ (fun r12 σ11 τ11 H locs h11 hP hS => ?_)
  obtain ⟨rfl, f13, f14, I15, h11⟩ := h11
  refine lv_pop hx hb dL_law_726 rfl ?_
  refine lv_aload_n hx hb dL_law_727 rfl (lv_at hl 1 rfl) ?_
  refine lv_aload_n hx hb dL_law_728 rfl (lv_at hl 3 rfl) ?_
  refine lv_iload_n hx hb dL_law_729 rfl (lv_at hl 0 rfl) ?_
  refine lv_iconst (v := 1) hx hb dL_law_730 (by decide) ?_
  refine lv_iadd hx hb dL_law_731 ?_
  refine jtopr ex9.symm ?_
  refine va_sld hx hb hX hbl hbA hS (jin tx9 (by omega) (by omega)) dL_law_732 ?_
  have I17 : jI101 σ11 := jI101_fr (congrFun (f13 55 (by decide)) 4) (congrFun (f13 55 (by decide)) 5) (f13 56 (by decide)) (f13 57 (by decide)) (f13 58 (by decide)) (f13 59 (by decide)) hI101
  have I18 : jI102 σ11 := jI102_fr (congrFun (f13 55 (by decide)) 6) (f13 60 (by decide)) (f13 61 (by decide)) hI102
  have I19 : jI103 σ11 := jI103_fr (congrFun (f13 55 (by decide)) 9) hI103
  have I20 : jI104 σ11 := jI104_fr (congrFun (f13 55 (by decide)) 10) (congrFun (f13 55 (by decide)) 12) (congrFun (f13 55 (by decide)) 13) (f13 62 (by decide)) (f13 67 (by decide)) hI104
  have I21 : jI105 σ11 := jI105_fr (congrFun (f13 55 (by decide)) 15) (f13 65 (by decide)) hI105
  have I22 : jI106 σ11 := jI106_fr (congrFun (f13 55 (by decide)) 32) (f13 70 (by decide)) (f13 71 (by decide)) (f13 72 (by decide)) hI106
  have I23 : jI119 σ11 := jI119_fr (f13 68 (by decide)) hI119
  have I24 : jI111 σ11 := jI111_fr (f13 79 (by decide)) hI111
  have p25 : jKept σ11 := jKept.fr (f13 75 (by decide)) (f13 76 (by decide)) (f13 77 (by decide)) hs_jKept
  refine jcallV (As := [.int (xs x9.toNatClampNeg)]) (rest := []) ⟨hx, hb, hml, hown, hts⟩ hK hP hA hS hZ (c_X12_theirs l D cI cL ad zz hJ σ11 τ (xs x9.toNatClampNeg) ((xs x9.toNatClampNeg).toInt) rfl I17 I18 I19 I20 I21 I22 I23 I24 p25) cw_RL_88 (jc_55 cI cL ad σ11 τ) rfl ⟨Nat.le_of_ble_eq_true rfl, Nat.le_of_ble_eq_true rfl⟩ rfl rfl rfl hl.1 rfl (Nat.le_of_ble_eq_true rfl) dL_law_733 ⟨Nat.le_of_ble_eq_true rfl, Nat.le_of_ble_eq_true rfl⟩ (fun r27 σ26 τ26 H locs h26 hP hS => ?_)
  obtain ⟨rfl, f28, f29, I30, I31, I32, p33, w34, h26⟩ := h26
  refine lv_pop hx hb dL_law_736 rfl ?_
  refine lv_goto (tgt := 1357) hx hb dL_law_737 (by decide) ?_
  obtain ⟨x36, ex36⟩ : ∃ y : Int32, y = x0 + 6 := ⟨_, rfl⟩
  have tx36 : x36.toInt = x0.toInt + 6 := (jadd ex36 rfl jz_6 (by omega) (by omega)).trans (by omega)
  refine lv_iinc (v := x36) (lv' := [(3, .int x36), (2, .ref (ad 55)), (1, .ref (ad 0)), (0, .ref b)]) hx hb dL_law_1357 hl (k := 0) rfl (by rw [ex36]; rfl) (by decide) rfl (fun ls hl => ?_)
  refine lv_goto (tgt := 18) hx hb dL_law_1360 (by decide) ?_
  have I37 : jI2 σ26 := jI2_fr ((congrFun (f28 2 (by decide)) 0).trans (congrFun (f13 2 (by decide)) 0)) ((congrFun (f28 2 (by decide)) 1).trans (congrFun (f13 2 (by decide)) 1)) ((congrFun (f28 2 (by decide)) 2).trans (congrFun (f13 2 (by decide)) 2)) ((congrFun (f28 2 (by decide)) 3).trans (congrFun (f13 2 (by decide)) 3)) ((f28 6 (by decide)).trans (f13 6 (by decide))) hI2
  have I38 : jI9 σ26 := jI9_fr ((congrFun (f28 9 (by decide)) 0).trans (congrFun (f13 9 (by decide)) 0)) ((f28 10 (by decide)).trans (f13 10 (by decide))) ((f28 11 (by decide)).trans (f13 11 (by decide))) hI9
  have I39 : jI12 σ26 := jI12_fr ((congrFun (f28 12 (by decide)) 0).trans (congrFun (f13 12 (by decide)) 0)) ((f28 13 (by decide)).trans (f13 13 (by decide))) hI12
  have I40 : jI16 σ26 := jI16_fr ((congrFun (f28 16 (by decide)) 0).trans (congrFun (f13 16 (by decide)) 0)) ((congrFun (f28 16 (by decide)) 1).trans (congrFun (f13 16 (by decide)) 1)) ((congrFun (f28 16 (by decide)) 2).trans (congrFun (f13 16 (by decide)) 2)) ((f28 17 (by decide)).trans (f13 17 (by decide))) hI16
  have I41 : jI18 σ26 := jI18_fr ((congrFun (f28 18 (by decide)) 0).trans (congrFun (f13 18 (by decide)) 0)) ((f28 19 (by decide)).trans (f13 19 (by decide))) hI18
  have I42 : jI22 σ26 := jI22_fr ((congrFun (f28 22 (by decide)) 0).trans (congrFun (f13 22 (by decide)) 0)) ((f28 23 (by decide)).trans (f13 23 (by decide))) hI22
  have I43 : jI31 σ26 := jI31_fr (congrFun (f28 31 (by decide)) 8) (f28 33 (by decide)) (f28 36 (by decide)) I15
  have I44 : jI38 σ26 := jI38_fr ((congrFun (f28 38 (by decide)) 0).trans (congrFun (f13 38 (by decide)) 0)) ((congrFun (f28 38 (by decide)) 1).trans (congrFun (f13 38 (by decide)) 1)) ((f28 39 (by decide)).trans (f13 39 (by decide))) hI38
  have I45 : jI43 σ26 := jI43_fr ((congrFun (f28 43 (by decide)) 8).trans (congrFun (f13 43 (by decide)) 8)) hI43
  have I46 : jI47 σ26 := jI47_fr ((congrFun (f28 47 (by decide)) 0).trans (congrFun (f13 47 (by decide)) 0)) ((f28 48 (by decide)).trans (f13 48 (by decide))) ((f28 49 (by decide)).trans (f13 49 (by decide))) hI47
  have I47 : jI50 σ26 := jI50_fr ((f28 52 (by decide)).trans (f13 52 (by decide))) hI50
  have I48 : jI101 σ26 := jI101_fr (f29 4 (by decide)) (f29 5 (by decide)) (f28 56 (by decide)) (f28 57 (by decide)) (f28 58 (by decide)) (f28 59 (by decide)) I17
  have I49 : jI102 σ26 := jI102_fr (f29 6 (by decide)) (f28 60 (by decide)) (f28 61 (by decide)) I18
  have I50 : jI103 σ26 := jI103_fr (f29 9 (by decide)) I19
  have I51 : jI105 σ26 := jI105_fr (f29 15 (by decide)) (f28 65 (by decide)) I21
  have I52 : jI106 σ26 := jI106_fr (f29 32 (by decide)) (f28 70 (by decide)) (f28 71 (by decide)) (f28 72 (by decide)) I22
  have I53 : jI107 σ26 := jI107_fr ((f29 12 (by decide)).trans (congrFun (f13 55 (by decide)) 12)) ((f29 47 (by decide)).trans (congrFun (f13 55 (by decide)) 47)) ((f28 80 (by decide)).trans (f13 80 (by decide))) hI107
  have I54 : jI109 σ26 := jI109_fr ((f29 50 (by decide)).trans (congrFun (f13 55 (by decide)) 50)) hI109
  have I55 : jI110 σ26 := jI110_fr ((f28 86 (by decide)).trans (f13 86 (by decide))) ((f28 87 (by decide)).trans (f13 87 (by decide))) hI110
  have p56 : jBook σ26 := jBook.fr ((f29 47 (by decide)).trans (congrFun (f13 55 (by decide)) 47)) ((f29 10 (by decide)).trans (congrFun (f13 55 (by decide)) 10)) ((f28 81 (by decide)).trans (f13 81 (by decide))) hs_jBook
  have z57 : (σ26 38 0).toInt = (σ 38 0).toInt := (congrArg Int32.toInt (show σ26 38 0 = (σ 38 0) from ((congrFun (f28 38 (by decide)) 0).trans (congrFun (f13 38 (by decide)) 0))))
  have z58 : (σ26 55 32).toInt = (σ 55 32).toInt := (congrArg Int32.toInt (show σ26 55 32 = (σ 55 32) from ((f29 32 (by decide)).trans (congrFun (f13 55 (by decide)) 32))))
  have z59 : (σ26 38 1).toInt = (σ 38 1).toInt := (congrArg Int32.toInt (show σ26 38 1 = (σ 38 1) from ((congrFun (f28 38 (by decide)) 1).trans (congrFun (f13 38 (by decide)) 1))))
  have z60 : (σ26 55 55).toInt = (σ 55 55).toInt := (congrArg Int32.toInt (show σ26 55 55 = (σ 55 55) from ((f29 55 (by decide)).trans (congrFun (f13 55 (by decide)) 55))))
  exact ih x36 σ26 τ _ _ ls (by have h9 := tx36; omega) ⟨I37, I38, I39, I40, I41, I42, I43, I44, I45, I46, I47, I48, I49, I50, I30, I51, I52, I53, I54, I55, I31, I32, p33, p56, (by omega), (by omega), (show jKd (σ26 39) (σ26 70) (σ26 55 32).toInt by rw [show σ26 39 = σ 39 from ((f28 39 (by decide)).trans (f13 39 (by decide))), show σ26 70 = σ 70 from ((f28 70 (by decide)).trans (f13 70 (by decide))), show (σ26 55 32).toInt = (σ 55 32).toInt from by omega]; exact hr0), (show jTt (σ26 42) (σ26 85) (σ26 55 55).toInt by rw [show σ26 42 = σ 42 from ((f28 42 (by decide)).trans (f13 42 (by decide))), show σ26 85 = σ 85 from ((f28 85 (by decide)).trans (f13 85 (by decide))), show (σ26 55 55).toInt = (σ 55 55).toInt from by omega]; exact hr1)⟩ hP hS (lv_sub hl [0, 1, 2, 3] rfl)
set_option maxHeartbeats 4000000 in
set_option maxRecDepth 100000 in
theorem law_case_18 {p : Program} {e : Env} {s : State} {m : MethodId} {below : List Frame} {meth : Method} {c : Code} (l : Launch) {b L : Nat} {xs : Nat → Int32} {D : va_G} {cI cL : ClassId} {ad zz : Nat → Nat} (C0 : lw_At p s m meth c b L xs) (hJ : jD ad) (hA : ∀ q, jA ad q → s.heap.size ≤ q) (hK : jK D cI cL s) (hZ : jZ zz (fun q : Nat => s.heap.size ≤ q) s s.heap) {x0 : Int32} (hx0 : 0 ≤ x0.toInt) (hxL : x0.toInt + 6 ≤ (L : Int)) (hL : L ≤ 384) {σ : Nat → Nat → Int32} {τ : Nat → Nat → Int64} {H : Heap} {locs : List Loc} (hS : va_S (fun q : Nat => s.heap.size ≤ q) s.heap H locs) {ls : Array Slot} (hAll : jAll σ τ) (hP : jH D cI cL ad σ τ H) (hl : lv_has ls 4 [(3, .int x0), (2, .ref (ad 55)), (1, .ref (ad 0)), (0, .ref b)]) (ih : ∀ (x1 : Int32) (σ : Nat → Nat → Int32) (τ : Nat → Nat → Int64) (H : Heap) (locs : List Loc) (ls : Array Slot), x1.toInt = x0.toInt + 6 → jAll σ τ → jH D cI cL ad σ τ H → va_S (fun q : Nat => s.heap.size ≤ q) s.heap H locs → lv_has ls 4 [(3, .int x1), (2, .ref (ad 55)), (1, .ref (ad 0)), (0, .ref b)] → W p l e room_1 s m #[Value.ref b] below meth c H locs 90 348600 (lw_Z below #[Value.ref b] s) (F0 m 18 ls [])) : W p l e room_1 s m #[Value.ref b] below meth c H locs 90 348600 (lw_Z below #[Value.ref b] s) (F0 m 740 ls []) := by
  obtain ⟨hx, hb, hr, hml, hown, hts0, hX, hbl, hlocks, hgv⟩ := C0
  have hts : ∀ w ∈ wsL_law, w.before #[Value.ref b] s = true := fun w h => hts0 w (wsL_law_in w h)
  have hbA : ¬ (fun q : Nat => s.heap.size ≤ q) b := Nat.not_le.mpr hbl
  have hown : s.vm.findClass RL = some m.cls := hown
  obtain ⟨hI2, hI9, hI12, hI16, hI18, hI22, hI31, hI38, hI43, hI47, hI50, hI101, hI102, hI103, hI104, hI105, hI106, hI107, hI109, hI110, hI111, hI119, hs_jKept, hs_jBook, ht0, ht1, hr0, hr1⟩ := hAll
  have hL9 : (L : Int) ≤ 384 := by omega
  obtain ⟨i1, i2, w3⟩ : (0 ≤ (σ 38 0).toInt ∧ (σ 38 0).toInt ≤ 20) ∧ (0 ≤ (σ 38 1).toInt ∧ (σ 38 1).toInt ≤ 1000) ∧ (∀ k : Nat, k < 20 → 0 ≤ (σ 39 k).toInt ∧ (σ 39 k).toInt ≤ 6) := id hI38
  obtain ⟨i4, w5, w6, w7⟩ : (0 ≤ (σ 55 32).toInt ∧ (σ 55 32).toInt ≤ 20) ∧ (∀ k : Nat, k < 20 → 0 ≤ (σ 70 k).toInt ∧ (σ 70 k).toInt ≤ 6) ∧ (∀ k : Nat, k < 20 → 0 ≤ (σ 71 k).toInt ∧ (σ 71 k).toInt ≤ 8) ∧ (∀ k : Nat, k < 160 → 0 ≤ (σ 72 k).toInt ∧ (σ 72 k).toInt ≤ 3) := id hI106
  refine lv_aload_n hx hb dL_law_740 rfl (lv_at hl 2 rfl) ?_
  refine lv_aload_n hx hb dL_law_741 rfl (lv_at hl 3 rfl) ?_
  refine lv_iload_n hx hb dL_law_742 rfl (lv_at hl 0 rfl) ?_
  refine lv_iconst (v := 1) hx hb dL_law_743 (by decide) ?_
  have g8 := jrg (rfl : x0.toInt = x0.toInt)
  refine lv_iadd hx hb dL_law_744 ?_
  refine lv_topi (fun x9 ex9 => ?_)
  have tx9 : x9.toInt = x0.toInt + 1 := (jadd ex9 rfl jz_1 (by omega) (by omega)).trans (by omega)
  refine va_sld hx hb hX hbl hbA hS (jin tx9 (by omega) (by omega)) dL_law_745 ?_
  have g10 := jrg (rfl : (xs x9.toNatClampNeg).toInt = (xs x9.toNatClampNeg).toInt)
  refine lv_aload_n hx hb dL_law_746 rfl (lv_at hl 3 rfl) ?_
  refine lv_iload_n hx hb dL_law_747 rfl (lv_at hl 0 rfl) ?_
  refine lv_iconst (v := 2) hx hb dL_law_748 (by decide) ?_
  refine lv_iadd hx hb dL_law_749 ?_
  refine lv_topi (fun x11 ex11 => ?_)
  have tx11 : x11.toInt = x0.toInt + 2 := (jadd ex11 rfl jz_2 (by omega) (by omega)).trans (by omega)
  refine va_sld hx hb hX hbl hbA hS (jin tx11 (by omega) (by omega)) dL_law_750 ?_
  have g12 := jrg (rfl : (xs x11.toNatClampNeg).toInt = (xs x11.toNatClampNeg).toInt)
  refine jcallV (As := [.int (xs x9.toNatClampNeg), .int (xs x11.toNatClampNeg)]) (rest := []) ⟨hx, hb, hml, hown, hts⟩ hK hP hA hS hZ (c_X11_learn l D cI cL ad zz hJ σ τ (xs x9.toNatClampNeg) ((xs x9.toNatClampNeg).toInt) rfl (xs x11.toNatClampNeg) ((xs x11.toNatClampNeg).toInt) rfl hI2) cw_RL_89 (jc_0 cI cL ad σ τ) rfl ⟨Nat.le_of_ble_eq_true rfl, Nat.le_of_ble_eq_true rfl⟩ rfl rfl rfl hl.1 rfl (Nat.le_of_ble_eq_true rfl) dL_law_751 ⟨Nat.le_of_ble_eq_true rfl, Nat.le_of_ble_eq_true rfl⟩ (fun r14 σ13 τ13 H locs h13 hP hS => ?_)
  obtain ⟨rfl, f15, f16, I17, h13⟩ := h13
  rcases h13 with h19 | h20
  · obtain ⟨q25, k21, k22, k23, k24⟩ := h19
    have q25 := q25.symm
    subst q25
    refine lv_pop hx hb dL_law_754 rfl ?_
    refine lv_aload_n hx hb dL_law_755 rfl (lv_at hl 1 rfl) ?_
    refine lv_aload_n hx hb dL_law_756 rfl (lv_at hl 3 rfl) ?_
    refine lv_iload_n hx hb dL_law_757 rfl (lv_at hl 0 rfl) ?_
    refine lv_iconst (v := 1) hx hb dL_law_758 (by decide) ?_
    refine lv_iadd hx hb dL_law_759 ?_
    refine jtopr ex9.symm ?_
    refine va_sld hx hb hX hbl hbA hS (jin tx9 (by omega) (by omega)) dL_law_760 ?_
    refine lv_aload_n hx hb dL_law_761 rfl (lv_at hl 3 rfl) ?_
    refine lv_iload_n hx hb dL_law_762 rfl (lv_at hl 0 rfl) ?_
    refine lv_iconst (v := 2) hx hb dL_law_763 (by decide) ?_
    refine lv_iadd hx hb dL_law_764 ?_
    refine jtopr ex11.symm ?_
    refine va_sld hx hb hX hbl hbA hS (jin tx11 (by omega) (by omega)) dL_law_765 ?_
    have I26 : jI101 σ13 := jI101_fr (congrFun (f15 55 (by decide)) 4) (congrFun (f15 55 (by decide)) 5) (f15 56 (by decide)) (f15 57 (by decide)) (f15 58 (by decide)) (f15 59 (by decide)) hI101
    have I27 : jI102 σ13 := jI102_fr (congrFun (f15 55 (by decide)) 6) (f15 60 (by decide)) (f15 61 (by decide)) hI102
    have z28 : (σ13 55 6).toInt = (σ 55 6).toInt := (congrArg Int32.toInt (show σ13 55 6 = (σ 55 6) from (congrFun (f15 55 (by decide)) 6)))
    have z29 : (σ13 55 5).toInt = (σ 55 5).toInt := (congrArg Int32.toInt (show σ13 55 5 = (σ 55 5) from (congrFun (f15 55 (by decide)) 5)))
    have z30 : (σ13 55 4).toInt = (σ 55 4).toInt := (congrArg Int32.toInt (show σ13 55 4 = (σ 55 4) from (congrFun (f15 55 (by decide)) 4)))
    refine jcallV (As := [.int (xs x9.toNatClampNeg), .int (xs x11.toNatClampNeg)]) (rest := []) ⟨hx, hb, hml, hown, hts⟩ hK hP hA hS hZ (c_X12_learn l D cI cL ad zz hJ σ13 τ (xs x9.toNatClampNeg) ((xs x9.toNatClampNeg).toInt) rfl (xs x11.toNatClampNeg) ((xs x11.toNatClampNeg).toInt) rfl I26 I27) cw_RL_92 (jc_55 cI cL ad σ13 τ) rfl ⟨Nat.le_of_ble_eq_true rfl, Nat.le_of_ble_eq_true rfl⟩ rfl rfl rfl hl.1 rfl (Nat.le_of_ble_eq_true rfl) dL_law_766 ⟨Nat.le_of_ble_eq_true rfl, Nat.le_of_ble_eq_true rfl⟩ (fun r32 σ31 τ31 H locs h31 hP hS => ?_)
    obtain ⟨rfl, f33, f34, I35, h31⟩ := h31
    rcases h31 with h37 | h38
    · obtain ⟨q43, k39, k40, k41, k42⟩ := h37
      have q43 := q43.symm
      subst q43
      refine lv_pop hx hb dL_law_769 rfl ?_
      refine lv_goto (tgt := 1357) hx hb dL_law_770 (by decide) ?_
      obtain ⟨x44, ex44⟩ : ∃ y : Int32, y = x0 + 6 := ⟨_, rfl⟩
      have tx44 : x44.toInt = x0.toInt + 6 := (jadd ex44 rfl jz_6 (by omega) (by omega)).trans (by omega)
      refine lv_iinc (v := x44) (lv' := [(3, .int x44), (2, .ref (ad 55)), (1, .ref (ad 0)), (0, .ref b)]) hx hb dL_law_1357 hl (k := 0) rfl (by rw [ex44]; rfl) (by decide) rfl (fun ls hl => ?_)
      refine lv_goto (tgt := 18) hx hb dL_law_1360 (by decide) ?_
      have I45 : jI2 σ31 := jI2_fr (congrFun (f33 2 (by decide)) 0) (congrFun (f33 2 (by decide)) 1) (congrFun (f33 2 (by decide)) 2) (congrFun (f33 2 (by decide)) 3) (f33 6 (by decide)) I17
      have I46 : jI9 σ31 := jI9_fr ((congrFun (f33 9 (by decide)) 0).trans (congrFun (f15 9 (by decide)) 0)) ((f33 10 (by decide)).trans (f15 10 (by decide))) ((f33 11 (by decide)).trans (f15 11 (by decide))) hI9
      have I47 : jI12 σ31 := jI12_fr ((congrFun (f33 12 (by decide)) 0).trans (congrFun (f15 12 (by decide)) 0)) ((f33 13 (by decide)).trans (f15 13 (by decide))) hI12
      have I48 : jI16 σ31 := jI16_fr ((congrFun (f33 16 (by decide)) 0).trans (congrFun (f15 16 (by decide)) 0)) ((congrFun (f33 16 (by decide)) 1).trans (congrFun (f15 16 (by decide)) 1)) ((congrFun (f33 16 (by decide)) 2).trans (congrFun (f15 16 (by decide)) 2)) ((f33 17 (by decide)).trans (f15 17 (by decide))) hI16
      have I49 : jI18 σ31 := jI18_fr ((congrFun (f33 18 (by decide)) 0).trans (congrFun (f15 18 (by decide)) 0)) ((f33 19 (by decide)).trans (f15 19 (by decide))) hI18
      have I50 : jI22 σ31 := jI22_fr ((congrFun (f33 22 (by decide)) 0).trans (congrFun (f15 22 (by decide)) 0)) ((f33 23 (by decide)).trans (f15 23 (by decide))) hI22
      have I51 : jI31 σ31 := jI31_fr ((congrFun (f33 31 (by decide)) 8).trans (congrFun (f15 31 (by decide)) 8)) ((f33 33 (by decide)).trans (f15 33 (by decide))) ((f33 36 (by decide)).trans (f15 36 (by decide))) hI31
      have I52 : jI38 σ31 := jI38_fr ((congrFun (f33 38 (by decide)) 0).trans (congrFun (f15 38 (by decide)) 0)) ((congrFun (f33 38 (by decide)) 1).trans (congrFun (f15 38 (by decide)) 1)) ((f33 39 (by decide)).trans (f15 39 (by decide))) hI38
      have I53 : jI43 σ31 := jI43_fr ((congrFun (f33 43 (by decide)) 8).trans (congrFun (f15 43 (by decide)) 8)) hI43
      have I54 : jI47 σ31 := jI47_fr ((congrFun (f33 47 (by decide)) 0).trans (congrFun (f15 47 (by decide)) 0)) ((f33 48 (by decide)).trans (f15 48 (by decide))) ((f33 49 (by decide)).trans (f15 49 (by decide))) hI47
      have I55 : jI50 σ31 := jI50_fr ((f33 52 (by decide)).trans (f15 52 (by decide))) hI50
      have I56 : jI102 σ31 := jI102_fr (f34 6 (by decide)) (f33 60 (by decide)) (f33 61 (by decide)) I27
      have I57 : jI103 σ31 := jI103_fr ((f34 9 (by decide)).trans (congrFun (f15 55 (by decide)) 9)) hI103
      have I58 : jI104 σ31 := jI104_fr ((f34 10 (by decide)).trans (congrFun (f15 55 (by decide)) 10)) ((f34 12 (by decide)).trans (congrFun (f15 55 (by decide)) 12)) ((f34 13 (by decide)).trans (congrFun (f15 55 (by decide)) 13)) ((f33 62 (by decide)).trans (f15 62 (by decide))) ((f33 67 (by decide)).trans (f15 67 (by decide))) hI104
      have I59 : jI105 σ31 := jI105_fr ((f34 15 (by decide)).trans (congrFun (f15 55 (by decide)) 15)) ((f33 65 (by decide)).trans (f15 65 (by decide))) hI105
      have I60 : jI106 σ31 := jI106_fr ((f34 32 (by decide)).trans (congrFun (f15 55 (by decide)) 32)) ((f33 70 (by decide)).trans (f15 70 (by decide))) ((f33 71 (by decide)).trans (f15 71 (by decide))) ((f33 72 (by decide)).trans (f15 72 (by decide))) hI106
      have I61 : jI107 σ31 := jI107_fr ((f34 12 (by decide)).trans (congrFun (f15 55 (by decide)) 12)) ((f34 47 (by decide)).trans (congrFun (f15 55 (by decide)) 47)) ((f33 80 (by decide)).trans (f15 80 (by decide))) hI107
      have I62 : jI109 σ31 := jI109_fr ((f34 50 (by decide)).trans (congrFun (f15 55 (by decide)) 50)) hI109
      have I63 : jI110 σ31 := jI110_fr ((f33 86 (by decide)).trans (f15 86 (by decide))) ((f33 87 (by decide)).trans (f15 87 (by decide))) hI110
      have I64 : jI111 σ31 := jI111_fr ((f33 79 (by decide)).trans (f15 79 (by decide))) hI111
      have I65 : jI119 σ31 := jI119_fr ((f33 68 (by decide)).trans (f15 68 (by decide))) hI119
      have p66 : jKept σ31 := jKept.fr ((f33 75 (by decide)).trans (f15 75 (by decide))) ((f33 76 (by decide)).trans (f15 76 (by decide))) ((f33 77 (by decide)).trans (f15 77 (by decide))) hs_jKept
      have p67 : jBook σ31 := jBook.fr ((f34 47 (by decide)).trans (congrFun (f15 55 (by decide)) 47)) ((f34 10 (by decide)).trans (congrFun (f15 55 (by decide)) 10)) ((f33 81 (by decide)).trans (f15 81 (by decide))) hs_jBook
      have z68 : (σ31 38 0).toInt = (σ 38 0).toInt := (congrArg Int32.toInt (show σ31 38 0 = (σ 38 0) from ((congrFun (f33 38 (by decide)) 0).trans (congrFun (f15 38 (by decide)) 0))))
      have z69 : (σ31 55 32).toInt = (σ 55 32).toInt := (congrArg Int32.toInt (show σ31 55 32 = (σ 55 32) from ((f34 32 (by decide)).trans (congrFun (f15 55 (by decide)) 32))))
      have z70 : (σ31 38 1).toInt = (σ 38 1).toInt := (congrArg Int32.toInt (show σ31 38 1 = (σ 38 1) from ((congrFun (f33 38 (by decide)) 1).trans (congrFun (f15 38 (by decide)) 1))))
      have z71 : (σ31 55 55).toInt = (σ 55 55).toInt := (congrArg Int32.toInt (show σ31 55 55 = (σ 55 55) from ((f34 55 (by decide)).trans (congrFun (f15 55 (by decide)) 55))))
      exact ih x44 σ31 τ _ _ ls (by have h9 := tx44; omega) ⟨I45, I46, I47, I48, I49, I50, I51, I52, I53, I54, I55, I35, I56, I57, I58, I59, I60, I61, I62, I63, I64, I65, p66, p67, (by omega), (by omega), (show jKd (σ31 39) (σ31 70) (σ31 55 32).toInt by rw [show σ31 39 = σ 39 from ((f33 39 (by decide)).trans (f15 39 (by decide))), show σ31 70 = σ 70 from ((f33 70 (by decide)).trans (f15 70 (by decide))), show (σ31 55 32).toInt = (σ 55 32).toInt from by omega]; exact hr0), (show jTt (σ31 42) (σ31 85) (σ31 55 55).toInt by rw [show σ31 42 = σ 42 from ((f33 42 (by decide)).trans (f15 42 (by decide))), show σ31 85 = σ 85 from ((f33 85 (by decide)).trans (f15 85 (by decide))), show (σ31 55 55).toInt = (σ 55 55).toInt from by omega]; exact hr1)⟩ hP hS (lv_sub hl [0, 1, 2, 3] rfl)
    · obtain ⟨q79, k72, k73, k74, k75, k76, k77, k78⟩ := h38
      refine lv_pop hx hb dL_law_769 rfl ?_
      refine lv_goto (tgt := 1357) hx hb dL_law_770 (by decide) ?_
      obtain ⟨x80, ex80⟩ : ∃ y : Int32, y = x0 + 6 := ⟨_, rfl⟩
      have tx80 : x80.toInt = x0.toInt + 6 := (jadd ex80 rfl jz_6 (by omega) (by omega)).trans (by omega)
      refine lv_iinc (v := x80) (lv' := [(3, .int x80), (2, .ref (ad 55)), (1, .ref (ad 0)), (0, .ref b)]) hx hb dL_law_1357 hl (k := 0) rfl (by rw [ex80]; rfl) (by decide) rfl (fun ls hl => ?_)
      refine lv_goto (tgt := 18) hx hb dL_law_1360 (by decide) ?_
      have I81 : jI2 σ31 := jI2_fr (congrFun (f33 2 (by decide)) 0) (congrFun (f33 2 (by decide)) 1) (congrFun (f33 2 (by decide)) 2) (congrFun (f33 2 (by decide)) 3) (f33 6 (by decide)) I17
      have I82 : jI9 σ31 := jI9_fr ((congrFun (f33 9 (by decide)) 0).trans (congrFun (f15 9 (by decide)) 0)) ((f33 10 (by decide)).trans (f15 10 (by decide))) ((f33 11 (by decide)).trans (f15 11 (by decide))) hI9
      have I83 : jI12 σ31 := jI12_fr ((congrFun (f33 12 (by decide)) 0).trans (congrFun (f15 12 (by decide)) 0)) ((f33 13 (by decide)).trans (f15 13 (by decide))) hI12
      have I84 : jI16 σ31 := jI16_fr ((congrFun (f33 16 (by decide)) 0).trans (congrFun (f15 16 (by decide)) 0)) ((congrFun (f33 16 (by decide)) 1).trans (congrFun (f15 16 (by decide)) 1)) ((congrFun (f33 16 (by decide)) 2).trans (congrFun (f15 16 (by decide)) 2)) ((f33 17 (by decide)).trans (f15 17 (by decide))) hI16
      have I85 : jI18 σ31 := jI18_fr ((congrFun (f33 18 (by decide)) 0).trans (congrFun (f15 18 (by decide)) 0)) ((f33 19 (by decide)).trans (f15 19 (by decide))) hI18
      have I86 : jI22 σ31 := jI22_fr ((congrFun (f33 22 (by decide)) 0).trans (congrFun (f15 22 (by decide)) 0)) ((f33 23 (by decide)).trans (f15 23 (by decide))) hI22
      have I87 : jI31 σ31 := jI31_fr ((congrFun (f33 31 (by decide)) 8).trans (congrFun (f15 31 (by decide)) 8)) ((f33 33 (by decide)).trans (f15 33 (by decide))) ((f33 36 (by decide)).trans (f15 36 (by decide))) hI31
      have I88 : jI38 σ31 := jI38_fr ((congrFun (f33 38 (by decide)) 0).trans (congrFun (f15 38 (by decide)) 0)) ((congrFun (f33 38 (by decide)) 1).trans (congrFun (f15 38 (by decide)) 1)) ((f33 39 (by decide)).trans (f15 39 (by decide))) hI38
      have I89 : jI43 σ31 := jI43_fr ((congrFun (f33 43 (by decide)) 8).trans (congrFun (f15 43 (by decide)) 8)) hI43
      have I90 : jI47 σ31 := jI47_fr ((congrFun (f33 47 (by decide)) 0).trans (congrFun (f15 47 (by decide)) 0)) ((f33 48 (by decide)).trans (f15 48 (by decide))) ((f33 49 (by decide)).trans (f15 49 (by decide))) hI47
      have I91 : jI50 σ31 := jI50_fr ((f33 52 (by decide)).trans (f15 52 (by decide))) hI50
      have I92 : jI102 σ31 := jI102_fr (f34 6 (by decide)) (f33 60 (by decide)) (f33 61 (by decide)) I27
      have I93 : jI103 σ31 := jI103_fr ((f34 9 (by decide)).trans (congrFun (f15 55 (by decide)) 9)) hI103
      have I94 : jI104 σ31 := jI104_fr ((f34 10 (by decide)).trans (congrFun (f15 55 (by decide)) 10)) ((f34 12 (by decide)).trans (congrFun (f15 55 (by decide)) 12)) ((f34 13 (by decide)).trans (congrFun (f15 55 (by decide)) 13)) ((f33 62 (by decide)).trans (f15 62 (by decide))) ((f33 67 (by decide)).trans (f15 67 (by decide))) hI104
      have I95 : jI105 σ31 := jI105_fr ((f34 15 (by decide)).trans (congrFun (f15 55 (by decide)) 15)) ((f33 65 (by decide)).trans (f15 65 (by decide))) hI105
      have I96 : jI106 σ31 := jI106_fr ((f34 32 (by decide)).trans (congrFun (f15 55 (by decide)) 32)) ((f33 70 (by decide)).trans (f15 70 (by decide))) ((f33 71 (by decide)).trans (f15 71 (by decide))) ((f33 72 (by decide)).trans (f15 72 (by decide))) hI106
      have I97 : jI107 σ31 := jI107_fr ((f34 12 (by decide)).trans (congrFun (f15 55 (by decide)) 12)) ((f34 47 (by decide)).trans (congrFun (f15 55 (by decide)) 47)) ((f33 80 (by decide)).trans (f15 80 (by decide))) hI107
      have I98 : jI109 σ31 := jI109_fr ((f34 50 (by decide)).trans (congrFun (f15 55 (by decide)) 50)) hI109
      have I99 : jI110 σ31 := jI110_fr ((f33 86 (by decide)).trans (f15 86 (by decide))) ((f33 87 (by decide)).trans (f15 87 (by decide))) hI110
      have I100 : jI111 σ31 := jI111_fr ((f33 79 (by decide)).trans (f15 79 (by decide))) hI111
      have I101 : jI119 σ31 := jI119_fr ((f33 68 (by decide)).trans (f15 68 (by decide))) hI119
      have p102 : jKept σ31 := jKept.fr ((f33 75 (by decide)).trans (f15 75 (by decide))) ((f33 76 (by decide)).trans (f15 76 (by decide))) ((f33 77 (by decide)).trans (f15 77 (by decide))) hs_jKept
      have p103 : jBook σ31 := jBook.fr ((f34 47 (by decide)).trans (congrFun (f15 55 (by decide)) 47)) ((f34 10 (by decide)).trans (congrFun (f15 55 (by decide)) 10)) ((f33 81 (by decide)).trans (f15 81 (by decide))) hs_jBook
      have z104 : (σ31 38 0).toInt = (σ 38 0).toInt := (congrArg Int32.toInt (show σ31 38 0 = (σ 38 0) from ((congrFun (f33 38 (by decide)) 0).trans (congrFun (f15 38 (by decide)) 0))))
      have z105 : (σ31 55 32).toInt = (σ 55 32).toInt := (congrArg Int32.toInt (show σ31 55 32 = (σ 55 32) from ((f34 32 (by decide)).trans (congrFun (f15 55 (by decide)) 32))))
      have z106 : (σ31 38 1).toInt = (σ 38 1).toInt := (congrArg Int32.toInt (show σ31 38 1 = (σ 38 1) from ((congrFun (f33 38 (by decide)) 1).trans (congrFun (f15 38 (by decide)) 1))))
      have z107 : (σ31 55 55).toInt = (σ 55 55).toInt := (congrArg Int32.toInt (show σ31 55 55 = (σ 55 55) from ((f34 55 (by decide)).trans (congrFun (f15 55 (by decide)) 55))))
      exact ih x80 σ31 τ _ _ ls (by have h9 := tx80; omega) ⟨I81, I82, I83, I84, I85, I86, I87, I88, I89, I90, I91, I35, I92, I93, I94, I95, I96, I97, I98, I99, I100, I101, p102, p103, (by omega), (by omega), (show jKd (σ31 39) (σ31 70) (σ31 55 32).toInt by rw [show σ31 39 = σ 39 from ((f33 39 (by decide)).trans (f15 39 (by decide))), show σ31 70 = σ 70 from ((f33 70 (by decide)).trans (f15 70 (by decide))), show (σ31 55 32).toInt = (σ 55 32).toInt from by omega]; exact hr0), (show jTt (σ31 42) (σ31 85) (σ31 55 55).toInt by rw [show σ31 42 = σ 42 from ((f33 42 (by decide)).trans (f15 42 (by decide))), show σ31 85 = σ 85 from ((f33 85 (by decide)).trans (f15 85 (by decide))), show (σ31 55 55).toInt = (σ 55 55).toInt from by omega]; exact hr1)⟩ hP hS (lv_sub hl [0, 1, 2, 3] rfl)
  · obtain ⟨q115, k108, k109, k110, k111, k112, k113, k114⟩ := h20
    refine lv_pop hx hb dL_law_754 rfl ?_
    refine lv_aload_n hx hb dL_law_755 rfl (lv_at hl 1 rfl) ?_
    refine lv_aload_n hx hb dL_law_756 rfl (lv_at hl 3 rfl) ?_
    refine lv_iload_n hx hb dL_law_757 rfl (lv_at hl 0 rfl) ?_
    refine lv_iconst (v := 1) hx hb dL_law_758 (by decide) ?_
    refine lv_iadd hx hb dL_law_759 ?_
    refine jtopr ex9.symm ?_
    refine va_sld hx hb hX hbl hbA hS (jin tx9 (by omega) (by omega)) dL_law_760 ?_
    refine lv_aload_n hx hb dL_law_761 rfl (lv_at hl 3 rfl) ?_
    refine lv_iload_n hx hb dL_law_762 rfl (lv_at hl 0 rfl) ?_
    refine lv_iconst (v := 2) hx hb dL_law_763 (by decide) ?_
    refine lv_iadd hx hb dL_law_764 ?_
    refine jtopr ex11.symm ?_
    refine va_sld hx hb hX hbl hbA hS (jin tx11 (by omega) (by omega)) dL_law_765 ?_
    have I116 : jI101 σ13 := jI101_fr (congrFun (f15 55 (by decide)) 4) (congrFun (f15 55 (by decide)) 5) (f15 56 (by decide)) (f15 57 (by decide)) (f15 58 (by decide)) (f15 59 (by decide)) hI101
    have I117 : jI102 σ13 := jI102_fr (congrFun (f15 55 (by decide)) 6) (f15 60 (by decide)) (f15 61 (by decide)) hI102
    have z118 : (σ13 55 6).toInt = (σ 55 6).toInt := (congrArg Int32.toInt (show σ13 55 6 = (σ 55 6) from (congrFun (f15 55 (by decide)) 6)))
    have z119 : (σ13 55 5).toInt = (σ 55 5).toInt := (congrArg Int32.toInt (show σ13 55 5 = (σ 55 5) from (congrFun (f15 55 (by decide)) 5)))
    have z120 : (σ13 55 4).toInt = (σ 55 4).toInt := (congrArg Int32.toInt (show σ13 55 4 = (σ 55 4) from (congrFun (f15 55 (by decide)) 4)))
    refine jcallV (As := [.int (xs x9.toNatClampNeg), .int (xs x11.toNatClampNeg)]) (rest := []) ⟨hx, hb, hml, hown, hts⟩ hK hP hA hS hZ (c_X12_learn l D cI cL ad zz hJ σ13 τ (xs x9.toNatClampNeg) ((xs x9.toNatClampNeg).toInt) rfl (xs x11.toNatClampNeg) ((xs x11.toNatClampNeg).toInt) rfl I116 I117) cw_RL_92 (jc_55 cI cL ad σ13 τ) rfl ⟨Nat.le_of_ble_eq_true rfl, Nat.le_of_ble_eq_true rfl⟩ rfl rfl rfl hl.1 rfl (Nat.le_of_ble_eq_true rfl) dL_law_766 ⟨Nat.le_of_ble_eq_true rfl, Nat.le_of_ble_eq_true rfl⟩ (fun r122 σ121 τ121 H locs h121 hP hS => ?_)
    obtain ⟨rfl, f123, f124, I125, h121⟩ := h121
    rcases h121 with h127 | h128
    · obtain ⟨q133, k129, k130, k131, k132⟩ := h127
      have q133 := q133.symm
      subst q133
      refine lv_pop hx hb dL_law_769 rfl ?_
      refine lv_goto (tgt := 1357) hx hb dL_law_770 (by decide) ?_
      obtain ⟨x134, ex134⟩ : ∃ y : Int32, y = x0 + 6 := ⟨_, rfl⟩
      have tx134 : x134.toInt = x0.toInt + 6 := (jadd ex134 rfl jz_6 (by omega) (by omega)).trans (by omega)
      refine lv_iinc (v := x134) (lv' := [(3, .int x134), (2, .ref (ad 55)), (1, .ref (ad 0)), (0, .ref b)]) hx hb dL_law_1357 hl (k := 0) rfl (by rw [ex134]; rfl) (by decide) rfl (fun ls hl => ?_)
      refine lv_goto (tgt := 18) hx hb dL_law_1360 (by decide) ?_
      have I135 : jI2 σ121 := jI2_fr (congrFun (f123 2 (by decide)) 0) (congrFun (f123 2 (by decide)) 1) (congrFun (f123 2 (by decide)) 2) (congrFun (f123 2 (by decide)) 3) (f123 6 (by decide)) I17
      have I136 : jI9 σ121 := jI9_fr ((congrFun (f123 9 (by decide)) 0).trans (congrFun (f15 9 (by decide)) 0)) ((f123 10 (by decide)).trans (f15 10 (by decide))) ((f123 11 (by decide)).trans (f15 11 (by decide))) hI9
      have I137 : jI12 σ121 := jI12_fr ((congrFun (f123 12 (by decide)) 0).trans (congrFun (f15 12 (by decide)) 0)) ((f123 13 (by decide)).trans (f15 13 (by decide))) hI12
      have I138 : jI16 σ121 := jI16_fr ((congrFun (f123 16 (by decide)) 0).trans (congrFun (f15 16 (by decide)) 0)) ((congrFun (f123 16 (by decide)) 1).trans (congrFun (f15 16 (by decide)) 1)) ((congrFun (f123 16 (by decide)) 2).trans (congrFun (f15 16 (by decide)) 2)) ((f123 17 (by decide)).trans (f15 17 (by decide))) hI16
      have I139 : jI18 σ121 := jI18_fr ((congrFun (f123 18 (by decide)) 0).trans (congrFun (f15 18 (by decide)) 0)) ((f123 19 (by decide)).trans (f15 19 (by decide))) hI18
      have I140 : jI22 σ121 := jI22_fr ((congrFun (f123 22 (by decide)) 0).trans (congrFun (f15 22 (by decide)) 0)) ((f123 23 (by decide)).trans (f15 23 (by decide))) hI22
      have I141 : jI31 σ121 := jI31_fr ((congrFun (f123 31 (by decide)) 8).trans (congrFun (f15 31 (by decide)) 8)) ((f123 33 (by decide)).trans (f15 33 (by decide))) ((f123 36 (by decide)).trans (f15 36 (by decide))) hI31
      have I142 : jI38 σ121 := jI38_fr ((congrFun (f123 38 (by decide)) 0).trans (congrFun (f15 38 (by decide)) 0)) ((congrFun (f123 38 (by decide)) 1).trans (congrFun (f15 38 (by decide)) 1)) ((f123 39 (by decide)).trans (f15 39 (by decide))) hI38
      have I143 : jI43 σ121 := jI43_fr ((congrFun (f123 43 (by decide)) 8).trans (congrFun (f15 43 (by decide)) 8)) hI43
      have I144 : jI47 σ121 := jI47_fr ((congrFun (f123 47 (by decide)) 0).trans (congrFun (f15 47 (by decide)) 0)) ((f123 48 (by decide)).trans (f15 48 (by decide))) ((f123 49 (by decide)).trans (f15 49 (by decide))) hI47
      have I145 : jI50 σ121 := jI50_fr ((f123 52 (by decide)).trans (f15 52 (by decide))) hI50
      have I146 : jI102 σ121 := jI102_fr (f124 6 (by decide)) (f123 60 (by decide)) (f123 61 (by decide)) I117
      have I147 : jI103 σ121 := jI103_fr ((f124 9 (by decide)).trans (congrFun (f15 55 (by decide)) 9)) hI103
      have I148 : jI104 σ121 := jI104_fr ((f124 10 (by decide)).trans (congrFun (f15 55 (by decide)) 10)) ((f124 12 (by decide)).trans (congrFun (f15 55 (by decide)) 12)) ((f124 13 (by decide)).trans (congrFun (f15 55 (by decide)) 13)) ((f123 62 (by decide)).trans (f15 62 (by decide))) ((f123 67 (by decide)).trans (f15 67 (by decide))) hI104
      have I149 : jI105 σ121 := jI105_fr ((f124 15 (by decide)).trans (congrFun (f15 55 (by decide)) 15)) ((f123 65 (by decide)).trans (f15 65 (by decide))) hI105
      have I150 : jI106 σ121 := jI106_fr ((f124 32 (by decide)).trans (congrFun (f15 55 (by decide)) 32)) ((f123 70 (by decide)).trans (f15 70 (by decide))) ((f123 71 (by decide)).trans (f15 71 (by decide))) ((f123 72 (by decide)).trans (f15 72 (by decide))) hI106
      have I151 : jI107 σ121 := jI107_fr ((f124 12 (by decide)).trans (congrFun (f15 55 (by decide)) 12)) ((f124 47 (by decide)).trans (congrFun (f15 55 (by decide)) 47)) ((f123 80 (by decide)).trans (f15 80 (by decide))) hI107
      have I152 : jI109 σ121 := jI109_fr ((f124 50 (by decide)).trans (congrFun (f15 55 (by decide)) 50)) hI109
      have I153 : jI110 σ121 := jI110_fr ((f123 86 (by decide)).trans (f15 86 (by decide))) ((f123 87 (by decide)).trans (f15 87 (by decide))) hI110
      have I154 : jI111 σ121 := jI111_fr ((f123 79 (by decide)).trans (f15 79 (by decide))) hI111
      have I155 : jI119 σ121 := jI119_fr ((f123 68 (by decide)).trans (f15 68 (by decide))) hI119
      have p156 : jKept σ121 := jKept.fr ((f123 75 (by decide)).trans (f15 75 (by decide))) ((f123 76 (by decide)).trans (f15 76 (by decide))) ((f123 77 (by decide)).trans (f15 77 (by decide))) hs_jKept
      have p157 : jBook σ121 := jBook.fr ((f124 47 (by decide)).trans (congrFun (f15 55 (by decide)) 47)) ((f124 10 (by decide)).trans (congrFun (f15 55 (by decide)) 10)) ((f123 81 (by decide)).trans (f15 81 (by decide))) hs_jBook
      have z158 : (σ121 38 0).toInt = (σ 38 0).toInt := (congrArg Int32.toInt (show σ121 38 0 = (σ 38 0) from ((congrFun (f123 38 (by decide)) 0).trans (congrFun (f15 38 (by decide)) 0))))
      have z159 : (σ121 55 32).toInt = (σ 55 32).toInt := (congrArg Int32.toInt (show σ121 55 32 = (σ 55 32) from ((f124 32 (by decide)).trans (congrFun (f15 55 (by decide)) 32))))
      have z160 : (σ121 38 1).toInt = (σ 38 1).toInt := (congrArg Int32.toInt (show σ121 38 1 = (σ 38 1) from ((congrFun (f123 38 (by decide)) 1).trans (congrFun (f15 38 (by decide)) 1))))
      have z161 : (σ121 55 55).toInt = (σ 55 55).toInt := (congrArg Int32.toInt (show σ121 55 55 = (σ 55 55) from ((f124 55 (by decide)).trans (congrFun (f15 55 (by decide)) 55))))
      exact ih x134 σ121 τ _ _ ls (by have h9 := tx134; omega) ⟨I135, I136, I137, I138, I139, I140, I141, I142, I143, I144, I145, I125, I146, I147, I148, I149, I150, I151, I152, I153, I154, I155, p156, p157, (by omega), (by omega), (show jKd (σ121 39) (σ121 70) (σ121 55 32).toInt by rw [show σ121 39 = σ 39 from ((f123 39 (by decide)).trans (f15 39 (by decide))), show σ121 70 = σ 70 from ((f123 70 (by decide)).trans (f15 70 (by decide))), show (σ121 55 32).toInt = (σ 55 32).toInt from by omega]; exact hr0), (show jTt (σ121 42) (σ121 85) (σ121 55 55).toInt by rw [show σ121 42 = σ 42 from ((f123 42 (by decide)).trans (f15 42 (by decide))), show σ121 85 = σ 85 from ((f123 85 (by decide)).trans (f15 85 (by decide))), show (σ121 55 55).toInt = (σ 55 55).toInt from by omega]; exact hr1)⟩ hP hS (lv_sub hl [0, 1, 2, 3] rfl)
    · obtain ⟨q169, k162, k163, k164, k165, k166, k167, k168⟩ := h128
      refine lv_pop hx hb dL_law_769 rfl ?_
      refine lv_goto (tgt := 1357) hx hb dL_law_770 (by decide) ?_
      obtain ⟨x170, ex170⟩ : ∃ y : Int32, y = x0 + 6 := ⟨_, rfl⟩
      have tx170 : x170.toInt = x0.toInt + 6 := (jadd ex170 rfl jz_6 (by omega) (by omega)).trans (by omega)
      refine lv_iinc (v := x170) (lv' := [(3, .int x170), (2, .ref (ad 55)), (1, .ref (ad 0)), (0, .ref b)]) hx hb dL_law_1357 hl (k := 0) rfl (by rw [ex170]; rfl) (by decide) rfl (fun ls hl => ?_)
      refine lv_goto (tgt := 18) hx hb dL_law_1360 (by decide) ?_
      have I171 : jI2 σ121 := jI2_fr (congrFun (f123 2 (by decide)) 0) (congrFun (f123 2 (by decide)) 1) (congrFun (f123 2 (by decide)) 2) (congrFun (f123 2 (by decide)) 3) (f123 6 (by decide)) I17
      have I172 : jI9 σ121 := jI9_fr ((congrFun (f123 9 (by decide)) 0).trans (congrFun (f15 9 (by decide)) 0)) ((f123 10 (by decide)).trans (f15 10 (by decide))) ((f123 11 (by decide)).trans (f15 11 (by decide))) hI9
      have I173 : jI12 σ121 := jI12_fr ((congrFun (f123 12 (by decide)) 0).trans (congrFun (f15 12 (by decide)) 0)) ((f123 13 (by decide)).trans (f15 13 (by decide))) hI12
      have I174 : jI16 σ121 := jI16_fr ((congrFun (f123 16 (by decide)) 0).trans (congrFun (f15 16 (by decide)) 0)) ((congrFun (f123 16 (by decide)) 1).trans (congrFun (f15 16 (by decide)) 1)) ((congrFun (f123 16 (by decide)) 2).trans (congrFun (f15 16 (by decide)) 2)) ((f123 17 (by decide)).trans (f15 17 (by decide))) hI16
      have I175 : jI18 σ121 := jI18_fr ((congrFun (f123 18 (by decide)) 0).trans (congrFun (f15 18 (by decide)) 0)) ((f123 19 (by decide)).trans (f15 19 (by decide))) hI18
      have I176 : jI22 σ121 := jI22_fr ((congrFun (f123 22 (by decide)) 0).trans (congrFun (f15 22 (by decide)) 0)) ((f123 23 (by decide)).trans (f15 23 (by decide))) hI22
      have I177 : jI31 σ121 := jI31_fr ((congrFun (f123 31 (by decide)) 8).trans (congrFun (f15 31 (by decide)) 8)) ((f123 33 (by decide)).trans (f15 33 (by decide))) ((f123 36 (by decide)).trans (f15 36 (by decide))) hI31
      have I178 : jI38 σ121 := jI38_fr ((congrFun (f123 38 (by decide)) 0).trans (congrFun (f15 38 (by decide)) 0)) ((congrFun (f123 38 (by decide)) 1).trans (congrFun (f15 38 (by decide)) 1)) ((f123 39 (by decide)).trans (f15 39 (by decide))) hI38
      have I179 : jI43 σ121 := jI43_fr ((congrFun (f123 43 (by decide)) 8).trans (congrFun (f15 43 (by decide)) 8)) hI43
      have I180 : jI47 σ121 := jI47_fr ((congrFun (f123 47 (by decide)) 0).trans (congrFun (f15 47 (by decide)) 0)) ((f123 48 (by decide)).trans (f15 48 (by decide))) ((f123 49 (by decide)).trans (f15 49 (by decide))) hI47
      have I181 : jI50 σ121 := jI50_fr ((f123 52 (by decide)).trans (f15 52 (by decide))) hI50
      have I182 : jI102 σ121 := jI102_fr (f124 6 (by decide)) (f123 60 (by decide)) (f123 61 (by decide)) I117
      have I183 : jI103 σ121 := jI103_fr ((f124 9 (by decide)).trans (congrFun (f15 55 (by decide)) 9)) hI103
      have I184 : jI104 σ121 := jI104_fr ((f124 10 (by decide)).trans (congrFun (f15 55 (by decide)) 10)) ((f124 12 (by decide)).trans (congrFun (f15 55 (by decide)) 12)) ((f124 13 (by decide)).trans (congrFun (f15 55 (by decide)) 13)) ((f123 62 (by decide)).trans (f15 62 (by decide))) ((f123 67 (by decide)).trans (f15 67 (by decide))) hI104
      have I185 : jI105 σ121 := jI105_fr ((f124 15 (by decide)).trans (congrFun (f15 55 (by decide)) 15)) ((f123 65 (by decide)).trans (f15 65 (by decide))) hI105
      have I186 : jI106 σ121 := jI106_fr ((f124 32 (by decide)).trans (congrFun (f15 55 (by decide)) 32)) ((f123 70 (by decide)).trans (f15 70 (by decide))) ((f123 71 (by decide)).trans (f15 71 (by decide))) ((f123 72 (by decide)).trans (f15 72 (by decide))) hI106
      have I187 : jI107 σ121 := jI107_fr ((f124 12 (by decide)).trans (congrFun (f15 55 (by decide)) 12)) ((f124 47 (by decide)).trans (congrFun (f15 55 (by decide)) 47)) ((f123 80 (by decide)).trans (f15 80 (by decide))) hI107
      have I188 : jI109 σ121 := jI109_fr ((f124 50 (by decide)).trans (congrFun (f15 55 (by decide)) 50)) hI109
      have I189 : jI110 σ121 := jI110_fr ((f123 86 (by decide)).trans (f15 86 (by decide))) ((f123 87 (by decide)).trans (f15 87 (by decide))) hI110
      have I190 : jI111 σ121 := jI111_fr ((f123 79 (by decide)).trans (f15 79 (by decide))) hI111
      have I191 : jI119 σ121 := jI119_fr ((f123 68 (by decide)).trans (f15 68 (by decide))) hI119
      have p192 : jKept σ121 := jKept.fr ((f123 75 (by decide)).trans (f15 75 (by decide))) ((f123 76 (by decide)).trans (f15 76 (by decide))) ((f123 77 (by decide)).trans (f15 77 (by decide))) hs_jKept
      have p193 : jBook σ121 := jBook.fr ((f124 47 (by decide)).trans (congrFun (f15 55 (by decide)) 47)) ((f124 10 (by decide)).trans (congrFun (f15 55 (by decide)) 10)) ((f123 81 (by decide)).trans (f15 81 (by decide))) hs_jBook
      have z194 : (σ121 38 0).toInt = (σ 38 0).toInt := (congrArg Int32.toInt (show σ121 38 0 = (σ 38 0) from ((congrFun (f123 38 (by decide)) 0).trans (congrFun (f15 38 (by decide)) 0))))
      have z195 : (σ121 55 32).toInt = (σ 55 32).toInt := (congrArg Int32.toInt (show σ121 55 32 = (σ 55 32) from ((f124 32 (by decide)).trans (congrFun (f15 55 (by decide)) 32))))
      have z196 : (σ121 38 1).toInt = (σ 38 1).toInt := (congrArg Int32.toInt (show σ121 38 1 = (σ 38 1) from ((congrFun (f123 38 (by decide)) 1).trans (congrFun (f15 38 (by decide)) 1))))
      have z197 : (σ121 55 55).toInt = (σ 55 55).toInt := (congrArg Int32.toInt (show σ121 55 55 = (σ 55 55) from ((f124 55 (by decide)).trans (congrFun (f15 55 (by decide)) 55))))
      exact ih x170 σ121 τ _ _ ls (by have h9 := tx170; omega) ⟨I171, I172, I173, I174, I175, I176, I177, I178, I179, I180, I181, I125, I182, I183, I184, I185, I186, I187, I188, I189, I190, I191, p192, p193, (by omega), (by omega), (show jKd (σ121 39) (σ121 70) (σ121 55 32).toInt by rw [show σ121 39 = σ 39 from ((f123 39 (by decide)).trans (f15 39 (by decide))), show σ121 70 = σ 70 from ((f123 70 (by decide)).trans (f15 70 (by decide))), show (σ121 55 32).toInt = (σ 55 32).toInt from by omega]; exact hr0), (show jTt (σ121 42) (σ121 85) (σ121 55 55).toInt by rw [show σ121 42 = σ 42 from ((f123 42 (by decide)).trans (f15 42 (by decide))), show σ121 85 = σ 85 from ((f123 85 (by decide)).trans (f15 85 (by decide))), show (σ121 55 55).toInt = (σ 55 55).toInt from by omega]; exact hr1)⟩ hP hS (lv_sub hl [0, 1, 2, 3] rfl)
