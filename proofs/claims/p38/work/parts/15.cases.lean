set_option maxHeartbeats 4000000 in
set_option maxRecDepth 100000 in
theorem law_case_0 {p : Program} {e : Env} {s : State} {m : MethodId} {below : List Frame} {meth : Method} {c : Code} (l : Launch) {b L : Nat} {xs : Nat → Int32} {D : va_G} {cI cL : ClassId} {ad zz : Nat → Nat} (C0 : lw_At p s m meth c b L xs) (hJ : jD ad) (hA : ∀ q, jA ad q → s.heap.size ≤ q) (hK : jK D cI cL s) (hZ : jZ zz (fun q : Nat => s.heap.size ≤ q) s s.heap) {x0 : Int32} (hx0 : 0 ≤ x0.toInt) (hxL : x0.toInt + 6 ≤ (L : Int)) (hL : L ≤ 384) {σ : Nat → Nat → Int32} {τ : Nat → Nat → Int64} {H : Heap} {locs : List Loc} (hS : va_S (fun q : Nat => s.heap.size ≤ q) s.heap H locs) {ls : Array Slot} (hAll : jAll σ τ) (hP : jH D cI cL ad σ τ H) (hl : lv_has ls 4 [(3, .int x0), (2, .ref (ad 55)), (1, .ref (ad 0)), (0, .ref b)]) (ih : ∀ (x1 : Int32) (σ : Nat → Nat → Int32) (τ : Nat → Nat → Int64) (H : Heap) (locs : List Loc) (ls : Array Slot), x1.toInt = x0.toInt + 6 → jAll σ τ → jH D cI cL ad σ τ H → va_S (fun q : Nat => s.heap.size ≤ q) s.heap H locs → lv_has ls 4 [(3, .int x1), (2, .ref (ad 55)), (1, .ref (ad 0)), (0, .ref b)] → W p l e room_1 s m #[Value.ref b] below meth c H locs 90 348600 (lw_Z below #[Value.ref b] s) (F0 m 18 ls [])) : W p l e room_1 s m #[Value.ref b] below meth c H locs 90 348600 (lw_Z below #[Value.ref b] s) (F0 m 196 ls []) := by
  obtain ⟨hx, hb, hr, hml, hown, hts0, hX, hbl, hlocks, hgv⟩ := C0
  have hts : ∀ w ∈ wsL_law, w.before #[Value.ref b] s = true := fun w h => hts0 w (wsL_law_in w h)
  have hbA : ¬ (fun q : Nat => s.heap.size ≤ q) b := Nat.not_le.mpr hbl
  have hown : s.vm.findClass RL = some m.cls := hown
  obtain ⟨hI2, hI9, hI12, hI16, hI18, hI22, hI31, hI38, hI43, hI47, hI50, hI101, hI102, hI103, hI104, hI105, hI106, hI107, hI109, hI110, hI111, hI119, hs_jKept, hs_jBook, ht0, ht1, ht2, ht3, ht4, ht5, ht6, ht7, ht8, ht9, ht10, ht11, hr0, hr1, hr2, hr3, hr4, hr5, hr6, hr7, hr8, hr9⟩ := hAll
  have hL9 : (L : Int) ≤ 384 := by omega
  obtain ⟨i1, i2, i3, i4, i5, w6⟩ : (0 ≤ (σ 2 0).toInt ∧ (σ 2 0).toInt ≤ 4) ∧ (0 ≤ (σ 2 1).toInt ∧ (σ 2 1).toInt ≤ 3) ∧ (0 ≤ (σ 2 2).toInt) ∧ (0 ≤ (σ 2 3).toInt) ∧ ((σ 2 2).toInt + (σ 2 3).toInt ≤ 40) ∧ (∀ k : Nat, k < 40 → 0 ≤ (σ 6 k).toInt ∧ (σ 6 k).toInt ≤ 67) := id hI2
  obtain ⟨i7, w8, w9⟩ : (0 ≤ (σ 9 0).toInt ∧ (σ 9 0).toInt ≤ 80) ∧ (∀ k : Nat, k < 80 → 0 ≤ (σ 10 k).toInt ∧ (σ 10 k).toInt ≤ 255) ∧ (∀ k : Nat, k < 8 → 0 ≤ (σ 11 k).toInt ∧ (σ 11 k).toInt ≤ 3) := id hI9
  obtain ⟨i10, i11, i12, w13⟩ : (1 ≤ (σ 16 0).toInt ∧ (σ 16 0).toInt ≤ 8) ∧ (1 ≤ (σ 16 1).toInt ∧ (σ 16 1).toInt ≤ 12) ∧ (0 ≤ (σ 16 2).toInt ∧ (σ 16 2).toInt ≤ 999) ∧ (∀ k : Nat, k < 8 → 0 ≤ (σ 17 k).toInt ∧ (σ 17 k).toInt ≤ 3) := id hI16
  obtain ⟨i14, i15, w16⟩ : (0 ≤ (σ 38 0).toInt ∧ (σ 38 0).toInt ≤ 20) ∧ (0 ≤ (σ 38 1).toInt ∧ (σ 38 1).toInt ≤ 1000) ∧ (∀ k : Nat, k < 20 → 0 ≤ (σ 39 k).toInt ∧ (σ 39 k).toInt ≤ 6) := id hI38
  obtain ⟨i17, w18, w19⟩ : (0 ≤ (σ 47 0).toInt ∧ (σ 47 0).toInt ≤ 12) ∧ (∀ k : Nat, k < 12 → 0 ≤ (σ 48 k).toInt ∧ (σ 48 k).toInt ≤ 3) ∧ (∀ k : Nat, k < 12 → 0 ≤ (σ 49 k).toInt ∧ (σ 49 k).toInt ≤ 1) := id hI47
  have w20 : ∀ k : Nat, k < 6 → 0 ≤ (σ 52 k).toInt ∧ (σ 52 k).toInt ≤ 60 := hI50
  obtain ⟨i21, i22, i23, w24, w25, w26, w27⟩ : (0 ≤ (σ 55 5).toInt) ∧ ((σ 55 5).toInt ≤ (σ 55 4).toInt) ∧ ((σ 55 4).toInt ≤ 40) ∧ (∀ k : Nat, k < 68 → (-200) ≤ (σ 56 k).toInt ∧ (σ 56 k).toInt ≤ 500) ∧ (∀ k : Nat, k < 40 → 0 ≤ (σ 57 k).toInt ∧ (σ 57 k).toInt ≤ 67) ∧ (∀ k : Nat, k < 40 → (-200) ≤ (σ 58 k).toInt ∧ (σ 58 k).toInt ≤ 500) ∧ (∀ k : Nat, k < 40 → (-200) ≤ (σ 59 k).toInt ∧ (σ 59 k).toInt ≤ 500) := id hI101
  obtain ⟨i28, w29, w30⟩ : (0 ≤ (σ 55 6).toInt ∧ (σ 55 6).toInt ≤ 4) ∧ (∀ k : Nat, k < 4 → 0 ≤ (σ 60 k).toInt ∧ (σ 60 k).toInt ≤ 50) ∧ (∀ k : Nat, k < 4 → 0 ≤ (σ 61 k).toInt ∧ (σ 61 k).toInt ≤ 20) := id hI102
  obtain ⟨i31, i32, i33, w34, w35⟩ : (1 ≤ (σ 55 10).toInt ∧ (σ 55 10).toInt ≤ 8) ∧ (1 ≤ (σ 55 12).toInt ∧ (σ 55 12).toInt ≤ 12) ∧ (0 ≤ (σ 55 13).toInt ∧ (σ 55 13).toInt ≤ 999) ∧ (∀ k : Nat, k < 8 → 0 ≤ (σ 62 k).toInt ∧ (σ 62 k).toInt ≤ 3) ∧ (∀ k : Nat, k < 8 → 0 ≤ (σ 67 k).toInt ∧ (σ 67 k).toInt ≤ 3) := id hI104
  obtain ⟨i36, w37⟩ : (0 ≤ (σ 55 15).toInt ∧ (σ 55 15).toInt ≤ 80) ∧ (∀ k : Nat, k < 2 → (-1) ≤ (σ 65 k).toInt ∧ (σ 65 k).toInt ≤ 80) := id hI105
  obtain ⟨i38, w39, w40, w41⟩ : (0 ≤ (σ 55 32).toInt ∧ (σ 55 32).toInt ≤ 20) ∧ (∀ k : Nat, k < 20 → 0 ≤ (σ 70 k).toInt ∧ (σ 70 k).toInt ≤ 6) ∧ (∀ k : Nat, k < 20 → 0 ≤ (σ 71 k).toInt ∧ (σ 71 k).toInt ≤ 8) ∧ (∀ k : Nat, k < 160 → 0 ≤ (σ 72 k).toInt ∧ (σ 72 k).toInt ≤ 3) := id hI106
  obtain ⟨i42, i43, w44⟩ : (0 ≤ (σ 55 47).toInt ∧ (σ 55 47).toInt ≤ 12) ∧ ((σ 55 47).toInt ≤ (σ 55 12).toInt) ∧ (∀ k : Nat, k < 12 → 0 ≤ (σ 80 k).toInt ∧ (σ 80 k).toInt ≤ 3) := id hI107
  refine lv_aload_n hx hb dL_law_196 rfl (lv_at hl 2 rfl) ?_
  refine lv_aload_n hx hb dL_law_197 rfl (lv_at hl 3 rfl) ?_
  refine lv_iload_n hx hb dL_law_198 rfl (lv_at hl 0 rfl) ?_
  refine lv_iconst (v := 1) hx hb dL_law_199 (of_decide_eq_true rfl) ?_
  have g45 := jrg (rfl : x0.toInt = x0.toInt)
  refine lv_iadd hx hb dL_law_200 ?_
  refine lv_topi (fun x46 ex46 => ?_)
  exact by
   have tx46 : x46.toInt = x0.toInt + 1 := (jadd ex46 rfl jz_1 (by omega) (by omega)).trans (by omega)
   refine va_sld hx hb hX hbl hbA hS (jin tx46 (by omega) (by omega)) dL_law_201 ?_
   have g47 := jrg (rfl : (xs x46.toNatClampNeg).toInt = (xs x46.toNatClampNeg).toInt)
   refine lv_aload_n hx hb dL_law_202 rfl (lv_at hl 3 rfl) ?_
   refine lv_iload_n hx hb dL_law_203 rfl (lv_at hl 0 rfl) ?_
   refine lv_iconst (v := 2) hx hb dL_law_204 (of_decide_eq_true rfl) ?_
   refine lv_iadd hx hb dL_law_205 ?_
   refine lv_topi (fun x48 ex48 => ?_)
   have tx48 : x48.toInt = x0.toInt + 2 := (jadd ex48 rfl jz_2 (by omega) (by omega)).trans (by omega)
   exact by
    refine va_sld hx hb hX hbl hbA hS (jin tx48 (by omega) (by omega)) dL_law_206 ?_
    have g49 := jrg (rfl : (xs x48.toNatClampNeg).toInt = (xs x48.toNatClampNeg).toInt)
    refine lv_aload_n hx hb dL_law_207 rfl (lv_at hl 3 rfl) ?_
    refine lv_iload_n hx hb dL_law_208 rfl (lv_at hl 0 rfl) ?_
    refine lv_iconst (v := 3) hx hb dL_law_209 (of_decide_eq_true rfl) ?_
    refine lv_iadd hx hb dL_law_210 ?_
    refine lv_topi (fun x50 ex50 => ?_)
    have tx50 : x50.toInt = x0.toInt + 3 := (jadd ex50 rfl jz_3 (by omega) (by omega)).trans (by omega)
    refine va_sld hx hb hX hbl hbA hS (jin tx50 (by omega) (by omega)) dL_law_211 ?_
    exact by
     have g51 := jrg (rfl : (xs x50.toNatClampNeg).toInt = (xs x50.toNatClampNeg).toInt)
     refine jcallV (As := [.int (xs x46.toNatClampNeg), .int (xs x48.toNatClampNeg), .int (xs x50.toNatClampNeg)]) (rest := []) ⟨hx, hb, hml, hown, hts⟩ hK hP hA hS hZ (c_X11_bowler l D cI cL ad zz hJ σ τ (xs x46.toNatClampNeg) ((xs x46.toNatClampNeg).toInt) rfl (xs x48.toNatClampNeg) ((xs x48.toNatClampNeg).toInt) rfl (xs x50.toNatClampNeg) ((xs x50.toNatClampNeg).toInt) rfl hI2) cw_RL_13 (jc_0 cI cL ad σ τ) rfl ⟨Nat.le_of_ble_eq_true rfl, Nat.le_of_ble_eq_true rfl⟩ rfl rfl rfl hl.1 rfl (Nat.le_of_ble_eq_true rfl) dL_law_212 ⟨Nat.le_of_ble_eq_true rfl, Nat.le_of_ble_eq_true rfl⟩ (fun r53 σ52 τ52 H locs h52 hP hS => ?_)
     obtain ⟨rfl, f54, f55, I56, h52⟩ := h52
     obtain ⟨i58, i59, i60, i61, i62, w63⟩ : (0 ≤ (σ52 2 0).toInt ∧ (σ52 2 0).toInt ≤ 4) ∧ (0 ≤ (σ52 2 1).toInt ∧ (σ52 2 1).toInt ≤ 3) ∧ (0 ≤ (σ52 2 2).toInt) ∧ (0 ≤ (σ52 2 3).toInt) ∧ ((σ52 2 2).toInt + (σ52 2 3).toInt ≤ 40) ∧ (∀ k : Nat, k < 40 → 0 ≤ (σ52 6 k).toInt ∧ (σ52 6 k).toInt ≤ 67) := id I56
     have z64 : (σ52 2 1).toInt = (σ 2 1).toInt := (congrArg Int32.toInt (show σ52 2 1 = (σ 2 1) from (f55 1 (of_decide_eq_true rfl))))
     have z65 : (σ52 2 2).toInt = (σ 2 2).toInt := (congrArg Int32.toInt (show σ52 2 2 = (σ 2 2) from (f55 2 (of_decide_eq_true rfl))))
     have z66 : (σ52 2 3).toInt = (σ 2 3).toInt := (congrArg Int32.toInt (show σ52 2 3 = (σ 2 3) from (f55 3 (of_decide_eq_true rfl))))
     rcases h52 with h67 | h68 | h69
     · obtain ⟨q73, k70, k71, k72⟩ := h67
       have q73 := q73.symm
       subst q73
       refine lv_pop hx hb dL_law_215 rfl ?_
       refine lv_aload_n hx hb dL_law_216 rfl (lv_at hl 1 rfl) ?_
       refine lv_aload_n hx hb dL_law_217 rfl (lv_at hl 3 rfl) ?_
       refine lv_iload_n hx hb dL_law_218 rfl (lv_at hl 0 rfl) ?_
       refine lv_iconst (v := 1) hx hb dL_law_219 (of_decide_eq_true rfl) ?_
       refine lv_iadd hx hb dL_law_220 ?_
       refine jtopr ex46.symm ?_
       exact by
        refine va_sld hx hb hX hbl hbA hS (jin tx46 (by omega) (by omega)) dL_law_221 ?_
        refine lv_aload_n hx hb dL_law_222 rfl (lv_at hl 3 rfl) ?_
        refine lv_iload_n hx hb dL_law_223 rfl (lv_at hl 0 rfl) ?_
        refine lv_iconst (v := 2) hx hb dL_law_224 (of_decide_eq_true rfl) ?_
        refine lv_iadd hx hb dL_law_225 ?_
        refine jtopr ex48.symm ?_
        refine va_sld hx hb hX hbl hbA hS (jin tx48 (by omega) (by omega)) dL_law_226 ?_
        refine lv_aload_n hx hb dL_law_227 rfl (lv_at hl 3 rfl) ?_
        refine lv_iload_n hx hb dL_law_228 rfl (lv_at hl 0 rfl) ?_
        exact by
         refine lv_iconst (v := 3) hx hb dL_law_229 (of_decide_eq_true rfl) ?_
         refine lv_iadd hx hb dL_law_230 ?_
         refine jtopr ex50.symm ?_
         refine va_sld hx hb hX hbl hbA hS (jin tx50 (by omega) (by omega)) dL_law_231 ?_
         have I74 : jI101 σ52 := jI101_fr (congrFun (f54 55 (of_decide_eq_true rfl)) 4) (congrFun (f54 55 (of_decide_eq_true rfl)) 5) (f54 56 (of_decide_eq_true rfl)) (f54 57 (of_decide_eq_true rfl)) (f54 58 (of_decide_eq_true rfl)) (f54 59 (of_decide_eq_true rfl)) hI101
         have I75 : jI102 σ52 := jI102_fr (congrFun (f54 55 (of_decide_eq_true rfl)) 6) (f54 60 (of_decide_eq_true rfl)) (f54 61 (of_decide_eq_true rfl)) hI102
         have z76 : (σ52 55 6).toInt = (σ 55 6).toInt := (congrArg Int32.toInt (show σ52 55 6 = (σ 55 6) from (congrFun (f54 55 (of_decide_eq_true rfl)) 6)))
         refine jcallV (As := [.int (xs x46.toNatClampNeg), .int (xs x48.toNatClampNeg), .int (xs x50.toNatClampNeg)]) (rest := []) ⟨hx, hb, hml, hown, hts⟩ hK hP hA hS hZ (c_X12_bowler l D cI cL ad zz hJ σ52 τ (xs x46.toNatClampNeg) ((xs x46.toNatClampNeg).toInt) rfl (xs x48.toNatClampNeg) ((xs x48.toNatClampNeg).toInt) rfl (xs x50.toNatClampNeg) ((xs x50.toNatClampNeg).toInt) rfl I74 I75) cw_RL_17 (jc_55 cI cL ad σ52 τ) rfl ⟨Nat.le_of_ble_eq_true rfl, Nat.le_of_ble_eq_true rfl⟩ rfl rfl rfl hl.1 rfl (Nat.le_of_ble_eq_true rfl) dL_law_232 ⟨Nat.le_of_ble_eq_true rfl, Nat.le_of_ble_eq_true rfl⟩ (fun r78 σ77 τ77 H locs h77 hP hS => ?_)
         obtain ⟨rfl, f79, f80, I81, I82, h77⟩ := h77
         exact by
          obtain ⟨i84, i85, i86, w87, w88, w89, w90⟩ : (0 ≤ (σ77 55 5).toInt) ∧ ((σ77 55 5).toInt ≤ (σ77 55 4).toInt) ∧ ((σ77 55 4).toInt ≤ 40) ∧ (∀ k : Nat, k < 68 → (-200) ≤ (σ77 56 k).toInt ∧ (σ77 56 k).toInt ≤ 500) ∧ (∀ k : Nat, k < 40 → 0 ≤ (σ77 57 k).toInt ∧ (σ77 57 k).toInt ≤ 67) ∧ (∀ k : Nat, k < 40 → (-200) ≤ (σ77 58 k).toInt ∧ (σ77 58 k).toInt ≤ 500) ∧ (∀ k : Nat, k < 40 → (-200) ≤ (σ77 59 k).toInt ∧ (σ77 59 k).toInt ≤ 500) := id I81
          obtain ⟨i91, w92, w93⟩ : (0 ≤ (σ77 55 6).toInt ∧ (σ77 55 6).toInt ≤ 4) ∧ (∀ k : Nat, k < 4 → 0 ≤ (σ77 60 k).toInt ∧ (σ77 60 k).toInt ≤ 50) ∧ (∀ k : Nat, k < 4 → 0 ≤ (σ77 61 k).toInt ∧ (σ77 61 k).toInt ≤ 20) := id I82
          have z94 : (σ77 55 5).toInt = (σ 55 5).toInt := (congrArg Int32.toInt (show σ77 55 5 = (σ 55 5) from ((f80 5 (of_decide_eq_true rfl)).trans (congrFun (f54 55 (of_decide_eq_true rfl)) 5))))
          have z95 : (σ77 55 4).toInt = (σ 55 4).toInt := (congrArg Int32.toInt (show σ77 55 4 = (σ 55 4) from ((f80 4 (of_decide_eq_true rfl)).trans (congrFun (f54 55 (of_decide_eq_true rfl)) 4))))
          rcases h77 with h96 | h97 | h98
          · obtain ⟨q102, k99, k100, k101⟩ := h96
            have q102 := q102.symm
            subst q102
            refine lv_pop hx hb dL_law_235 rfl ?_
            refine lv_goto (tgt := 1357) hx hb dL_law_236 (of_decide_eq_true rfl) ?_
            obtain ⟨x103, ex103⟩ : ∃ y : Int32, y = x0 + 6 := ⟨_, rfl⟩
            exact by
             have tx103 : x103.toInt = x0.toInt + 6 := (jadd ex103 rfl jz_6 (by omega) (by omega)).trans (by omega)
             refine lv_iinc (v := x103) (lv' := [(3, .int x103), (2, .ref (ad 55)), (1, .ref (ad 0)), (0, .ref b)]) hx hb dL_law_1357 hl (k := 0) rfl (by rw [ex103]; rfl) (of_decide_eq_true rfl) rfl (fun ls hl => ?_)
             refine lv_goto (tgt := 18) hx hb dL_law_1360 (of_decide_eq_true rfl) ?_
             have I104 : jI2 σ77 := jI2_fr (congrFun (f79 2 (of_decide_eq_true rfl)) 0) (congrFun (f79 2 (of_decide_eq_true rfl)) 1) (congrFun (f79 2 (of_decide_eq_true rfl)) 2) (congrFun (f79 2 (of_decide_eq_true rfl)) 3) (f79 6 (of_decide_eq_true rfl)) I56
             have I105 : jI9 σ77 := jI9_fr ((congrFun (f79 9 (of_decide_eq_true rfl)) 0).trans (congrFun (f54 9 (of_decide_eq_true rfl)) 0)) ((f79 10 (of_decide_eq_true rfl)).trans (f54 10 (of_decide_eq_true rfl))) ((f79 11 (of_decide_eq_true rfl)).trans (f54 11 (of_decide_eq_true rfl))) hI9
             have I106 : jI12 σ77 := jI12_fr ((congrFun (f79 12 (of_decide_eq_true rfl)) 0).trans (congrFun (f54 12 (of_decide_eq_true rfl)) 0)) ((f79 13 (of_decide_eq_true rfl)).trans (f54 13 (of_decide_eq_true rfl))) hI12
             have I107 : jI16 σ77 := jI16_fr ((congrFun (f79 16 (of_decide_eq_true rfl)) 0).trans (congrFun (f54 16 (of_decide_eq_true rfl)) 0)) ((congrFun (f79 16 (of_decide_eq_true rfl)) 1).trans (congrFun (f54 16 (of_decide_eq_true rfl)) 1)) ((congrFun (f79 16 (of_decide_eq_true rfl)) 2).trans (congrFun (f54 16 (of_decide_eq_true rfl)) 2)) ((f79 17 (of_decide_eq_true rfl)).trans (f54 17 (of_decide_eq_true rfl))) hI16
             have I108 : jI18 σ77 := jI18_fr ((congrFun (f79 18 (of_decide_eq_true rfl)) 0).trans (congrFun (f54 18 (of_decide_eq_true rfl)) 0)) ((f79 19 (of_decide_eq_true rfl)).trans (f54 19 (of_decide_eq_true rfl))) hI18
             have I109 : jI22 σ77 := jI22_fr ((congrFun (f79 22 (of_decide_eq_true rfl)) 0).trans (congrFun (f54 22 (of_decide_eq_true rfl)) 0)) ((f79 23 (of_decide_eq_true rfl)).trans (f54 23 (of_decide_eq_true rfl))) hI22
             exact by
              have I110 : jI31 σ77 := jI31_fr ((congrFun (f79 31 (of_decide_eq_true rfl)) 8).trans (congrFun (f54 31 (of_decide_eq_true rfl)) 8)) ((f79 33 (of_decide_eq_true rfl)).trans (f54 33 (of_decide_eq_true rfl))) ((f79 36 (of_decide_eq_true rfl)).trans (f54 36 (of_decide_eq_true rfl))) hI31
              have I111 : jI38 σ77 := jI38_fr ((congrFun (f79 38 (of_decide_eq_true rfl)) 0).trans (congrFun (f54 38 (of_decide_eq_true rfl)) 0)) ((congrFun (f79 38 (of_decide_eq_true rfl)) 1).trans (congrFun (f54 38 (of_decide_eq_true rfl)) 1)) ((f79 39 (of_decide_eq_true rfl)).trans (f54 39 (of_decide_eq_true rfl))) hI38
              have I112 : jI43 σ77 := jI43_fr ((congrFun (f79 43 (of_decide_eq_true rfl)) 8).trans (congrFun (f54 43 (of_decide_eq_true rfl)) 8)) hI43
              have I113 : jI47 σ77 := jI47_fr ((congrFun (f79 47 (of_decide_eq_true rfl)) 0).trans (congrFun (f54 47 (of_decide_eq_true rfl)) 0)) ((f79 48 (of_decide_eq_true rfl)).trans (f54 48 (of_decide_eq_true rfl))) ((f79 49 (of_decide_eq_true rfl)).trans (f54 49 (of_decide_eq_true rfl))) hI47
              have I114 : jI50 σ77 := jI50_fr ((f79 52 (of_decide_eq_true rfl)).trans (f54 52 (of_decide_eq_true rfl))) hI50
              have I115 : jI103 σ77 := jI103_fr ((f80 9 (of_decide_eq_true rfl)).trans (congrFun (f54 55 (of_decide_eq_true rfl)) 9)) hI103
              have I116 : jI104 σ77 := jI104_fr ((f80 10 (of_decide_eq_true rfl)).trans (congrFun (f54 55 (of_decide_eq_true rfl)) 10)) ((f80 12 (of_decide_eq_true rfl)).trans (congrFun (f54 55 (of_decide_eq_true rfl)) 12)) ((f80 13 (of_decide_eq_true rfl)).trans (congrFun (f54 55 (of_decide_eq_true rfl)) 13)) ((f79 62 (of_decide_eq_true rfl)).trans (f54 62 (of_decide_eq_true rfl))) ((f79 67 (of_decide_eq_true rfl)).trans (f54 67 (of_decide_eq_true rfl))) hI104
              have I117 : jI105 σ77 := jI105_fr ((f80 15 (of_decide_eq_true rfl)).trans (congrFun (f54 55 (of_decide_eq_true rfl)) 15)) ((f79 65 (of_decide_eq_true rfl)).trans (f54 65 (of_decide_eq_true rfl))) hI105
              have I118 : jI106 σ77 := jI106_fr ((f80 32 (of_decide_eq_true rfl)).trans (congrFun (f54 55 (of_decide_eq_true rfl)) 32)) ((f79 70 (of_decide_eq_true rfl)).trans (f54 70 (of_decide_eq_true rfl))) ((f79 71 (of_decide_eq_true rfl)).trans (f54 71 (of_decide_eq_true rfl))) ((f79 72 (of_decide_eq_true rfl)).trans (f54 72 (of_decide_eq_true rfl))) hI106
              have I119 : jI107 σ77 := jI107_fr ((f80 12 (of_decide_eq_true rfl)).trans (congrFun (f54 55 (of_decide_eq_true rfl)) 12)) ((f80 47 (of_decide_eq_true rfl)).trans (congrFun (f54 55 (of_decide_eq_true rfl)) 47)) ((f79 80 (of_decide_eq_true rfl)).trans (f54 80 (of_decide_eq_true rfl))) hI107
              have I120 : jI109 σ77 := jI109_fr ((f80 50 (of_decide_eq_true rfl)).trans (congrFun (f54 55 (of_decide_eq_true rfl)) 50)) hI109
              have I121 : jI110 σ77 := jI110_fr ((f79 86 (of_decide_eq_true rfl)).trans (f54 86 (of_decide_eq_true rfl))) ((f79 87 (of_decide_eq_true rfl)).trans (f54 87 (of_decide_eq_true rfl))) hI110
              have I122 : jI111 σ77 := jI111_fr ((f79 79 (of_decide_eq_true rfl)).trans (f54 79 (of_decide_eq_true rfl))) hI111
              have I123 : jI119 σ77 := jI119_fr ((f79 68 (of_decide_eq_true rfl)).trans (f54 68 (of_decide_eq_true rfl))) hI119
              have p124 : jKept σ77 := jKept.fr ((f79 75 (of_decide_eq_true rfl)).trans (f54 75 (of_decide_eq_true rfl))) ((f79 76 (of_decide_eq_true rfl)).trans (f54 76 (of_decide_eq_true rfl))) ((f79 77 (of_decide_eq_true rfl)).trans (f54 77 (of_decide_eq_true rfl))) hs_jKept
              have p125 : jBook σ77 := jBook.fr ((f80 47 (of_decide_eq_true rfl)).trans (congrFun (f54 55 (of_decide_eq_true rfl)) 47)) ((f80 10 (of_decide_eq_true rfl)).trans (congrFun (f54 55 (of_decide_eq_true rfl)) 10)) ((f79 81 (of_decide_eq_true rfl)).trans (f54 81 (of_decide_eq_true rfl))) hs_jBook
              have z126 : (σ77 2 0).toInt = (σ52 2 0).toInt := (congrArg Int32.toInt (show σ77 2 0 = (σ52 2 0) from (congrFun (f79 2 (of_decide_eq_true rfl)) 0)))
              have z127 : (σ77 2 2).toInt = (σ 2 2).toInt := (congrArg Int32.toInt (show σ77 2 2 = (σ 2 2) from ((congrFun (f79 2 (of_decide_eq_true rfl)) 2).trans (f55 2 (of_decide_eq_true rfl)))))
              have z128 : (σ77 2 3).toInt = (σ 2 3).toInt := (congrArg Int32.toInt (show σ77 2 3 = (σ 2 3) from ((congrFun (f79 2 (of_decide_eq_true rfl)) 3).trans (f55 3 (of_decide_eq_true rfl)))))
              have z129 : (σ77 9 0).toInt = (σ 9 0).toInt := (congrArg Int32.toInt (show σ77 9 0 = (σ 9 0) from ((congrFun (f79 9 (of_decide_eq_true rfl)) 0).trans (congrFun (f54 9 (of_decide_eq_true rfl)) 0))))
              have z130 : (σ77 55 15).toInt = (σ 55 15).toInt := (congrArg Int32.toInt (show σ77 55 15 = (σ 55 15) from ((f80 15 (of_decide_eq_true rfl)).trans (congrFun (f54 55 (of_decide_eq_true rfl)) 15))))
              have z131 : (σ77 16 0).toInt = (σ 16 0).toInt := (congrArg Int32.toInt (show σ77 16 0 = (σ 16 0) from ((congrFun (f79 16 (of_decide_eq_true rfl)) 0).trans (congrFun (f54 16 (of_decide_eq_true rfl)) 0))))
              have z132 : (σ77 55 10).toInt = (σ 55 10).toInt := (congrArg Int32.toInt (show σ77 55 10 = (σ 55 10) from ((f80 10 (of_decide_eq_true rfl)).trans (congrFun (f54 55 (of_decide_eq_true rfl)) 10))))
              have z133 : (σ77 16 1).toInt = (σ 16 1).toInt := (congrArg Int32.toInt (show σ77 16 1 = (σ 16 1) from ((congrFun (f79 16 (of_decide_eq_true rfl)) 1).trans (congrFun (f54 16 (of_decide_eq_true rfl)) 1))))
              have z134 : (σ77 55 12).toInt = (σ 55 12).toInt := (congrArg Int32.toInt (show σ77 55 12 = (σ 55 12) from ((f80 12 (of_decide_eq_true rfl)).trans (congrFun (f54 55 (of_decide_eq_true rfl)) 12))))
              have z135 : (σ77 16 2).toInt = (σ 16 2).toInt := (congrArg Int32.toInt (show σ77 16 2 = (σ 16 2) from ((congrFun (f79 16 (of_decide_eq_true rfl)) 2).trans (congrFun (f54 16 (of_decide_eq_true rfl)) 2))))
              have z136 : (σ77 55 13).toInt = (σ 55 13).toInt := (congrArg Int32.toInt (show σ77 55 13 = (σ 55 13) from ((f80 13 (of_decide_eq_true rfl)).trans (congrFun (f54 55 (of_decide_eq_true rfl)) 13))))
              have z137 : (σ77 38 0).toInt = (σ 38 0).toInt := (congrArg Int32.toInt (show σ77 38 0 = (σ 38 0) from ((congrFun (f79 38 (of_decide_eq_true rfl)) 0).trans (congrFun (f54 38 (of_decide_eq_true rfl)) 0))))
              have z138 : (σ77 55 32).toInt = (σ 55 32).toInt := (congrArg Int32.toInt (show σ77 55 32 = (σ 55 32) from ((f80 32 (of_decide_eq_true rfl)).trans (congrFun (f54 55 (of_decide_eq_true rfl)) 32))))
              have z139 : (σ77 38 1).toInt = (σ 38 1).toInt := (congrArg Int32.toInt (show σ77 38 1 = (σ 38 1) from ((congrFun (f79 38 (of_decide_eq_true rfl)) 1).trans (congrFun (f54 38 (of_decide_eq_true rfl)) 1))))
              have z140 : (σ77 55 55).toInt = (σ 55 55).toInt := (congrArg Int32.toInt (show σ77 55 55 = (σ 55 55) from ((f80 55 (of_decide_eq_true rfl)).trans (congrFun (f54 55 (of_decide_eq_true rfl)) 55))))
              have z141 : (σ77 47 0).toInt = (σ 47 0).toInt := (congrArg Int32.toInt (show σ77 47 0 = (σ 47 0) from ((congrFun (f79 47 (of_decide_eq_true rfl)) 0).trans (congrFun (f54 47 (of_decide_eq_true rfl)) 0))))
              have z142 : (σ77 55 47).toInt = (σ 55 47).toInt := (congrArg Int32.toInt (show σ77 55 47 = (σ 55 47) from ((f80 47 (of_decide_eq_true rfl)).trans (congrFun (f54 55 (of_decide_eq_true rfl)) 47))))
              have z143 : (σ77 55 30).toInt = (σ 55 30).toInt := (congrArg Int32.toInt (show σ77 55 30 = (σ 55 30) from ((f80 30 (of_decide_eq_true rfl)).trans (congrFun (f54 55 (of_decide_eq_true rfl)) 30))))
              have z144 : (σ77 55 31).toInt = (σ 55 31).toInt := (congrArg Int32.toInt (show σ77 55 31 = (σ 55 31) from ((f80 31 (of_decide_eq_true rfl)).trans (congrFun (f54 55 (of_decide_eq_true rfl)) 31))))
              exact by exact ih x103 σ77 τ _ _ ls (by have h9 := tx103; omega) ⟨I104, I105, I106, I107, I108, I109, I110, I111, I112, I113, I114, I81, I82, I115, I116, I117, I118, I119, I120, I121, I122, I123, p124, p125, (by omega), (by omega), (by omega), (by omega), (by omega), (by omega), (by omega), (by omega), (by omega), (by omega), (by omega), (by omega), (show jNumP (σ77 3) (σ77 56) (σ77 6) (σ77 57) (σ77 7) (σ77 58) (σ77 8) (σ77 59) (σ77 55 6).toInt (σ77 55 4).toInt by rw [show σ77 3 = σ 3 from ((f79 3 (of_decide_eq_true rfl)).trans k72), show σ77 56 = σ 56 from (k101.trans (f54 56 (of_decide_eq_true rfl))), show σ77 6 = σ 6 from ((f79 6 (of_decide_eq_true rfl)).trans (f54 6 (of_decide_eq_true rfl))), show σ77 57 = σ 57 from ((f79 57 (of_decide_eq_true rfl)).trans (f54 57 (of_decide_eq_true rfl))), show σ77 7 = σ 7 from ((f79 7 (of_decide_eq_true rfl)).trans (f54 7 (of_decide_eq_true rfl))), show σ77 58 = σ 58 from ((f79 58 (of_decide_eq_true rfl)).trans (f54 58 (of_decide_eq_true rfl))), show σ77 8 = σ 8 from ((f79 8 (of_decide_eq_true rfl)).trans (f54 8 (of_decide_eq_true rfl))), show σ77 59 = σ 59 from ((f79 59 (of_decide_eq_true rfl)).trans (f54 59 (of_decide_eq_true rfl))), show (σ77 55 6).toInt = (σ 55 6).toInt from by omega, show (σ77 55 4).toInt = (σ 55 4).toInt from by omega]; exact hr0), (show jOvP (σ77 56) (σ77 57) (σ77 58) (σ77 59) (σ77 55 4).toInt by rw [show σ77 56 = σ 56 from (k101.trans (f54 56 (of_decide_eq_true rfl))), show σ77 57 = σ 57 from ((f79 57 (of_decide_eq_true rfl)).trans (f54 57 (of_decide_eq_true rfl))), show σ77 58 = σ 58 from ((f79 58 (of_decide_eq_true rfl)).trans (f54 58 (of_decide_eq_true rfl))), show σ77 59 = σ 59 from ((f79 59 (of_decide_eq_true rfl)).trans (f54 59 (of_decide_eq_true rfl))), show (σ77 55 4).toInt = (σ 55 4).toInt from by omega]; exact hr1), (show jTp (σ77 10) (σ77 63) (σ77 55 15).toInt by rw [show σ77 10 = σ 10 from ((f79 10 (of_decide_eq_true rfl)).trans (f54 10 (of_decide_eq_true rfl))), show σ77 63 = σ 63 from ((f79 63 (of_decide_eq_true rfl)).trans (f54 63 (of_decide_eq_true rfl)))]; exact hr2.le (by omega)), (show jSo (σ77 17) (σ77 62) (σ77 16 0).toInt by rw [show σ77 17 = σ 17 from ((f79 17 (of_decide_eq_true rfl)).trans (f54 17 (of_decide_eq_true rfl))), show σ77 62 = σ 62 from ((f79 62 (of_decide_eq_true rfl)).trans (f54 62 (of_decide_eq_true rfl))), show (σ77 16 0).toInt = (σ 16 0).toInt from by omega]; exact hr3), (show jShP (σ77 51) (σ77 52) (σ77 53) (σ77 86) (σ77 87) (σ77 55 32).toInt by rw [show σ77 51 = σ 51 from ((f79 51 (of_decide_eq_true rfl)).trans (f54 51 (of_decide_eq_true rfl))), show σ77 52 = σ 52 from ((f79 52 (of_decide_eq_true rfl)).trans (f54 52 (of_decide_eq_true rfl))), show σ77 53 = σ 53 from ((f79 53 (of_decide_eq_true rfl)).trans (f54 53 (of_decide_eq_true rfl))), show σ77 86 = σ 86 from ((f79 86 (of_decide_eq_true rfl)).trans (f54 86 (of_decide_eq_true rfl))), show σ77 87 = σ 87 from ((f79 87 (of_decide_eq_true rfl)).trans (f54 87 (of_decide_eq_true rfl)))]; exact (hr4.up (by omega) (by omega))), (show jEl (σ77 51) (σ77 52) (τ 54) (τ 88) by rw [show σ77 51 = σ 51 from ((f79 51 (of_decide_eq_true rfl)).trans (f54 51 (of_decide_eq_true rfl))), show σ77 52 = σ 52 from ((f79 52 (of_decide_eq_true rfl)).trans (f54 52 (of_decide_eq_true rfl)))]; exact hr5), (show jByP (σ77 51) (σ77 52) (τ 54) by rw [show σ77 51 = σ 51 from ((f79 51 (of_decide_eq_true rfl)).trans (f54 51 (of_decide_eq_true rfl))), show σ77 52 = σ 52 from ((f79 52 (of_decide_eq_true rfl)).trans (f54 52 (of_decide_eq_true rfl)))]; exact hr6), (show jBk (σ77 48) (σ77 80) (σ77 49) (σ77 81) (σ77 55 47).toInt by rw [show σ77 48 = σ 48 from ((f79 48 (of_decide_eq_true rfl)).trans (f54 48 (of_decide_eq_true rfl))), show σ77 49 = σ 49 from ((f79 49 (of_decide_eq_true rfl)).trans (f54 49 (of_decide_eq_true rfl))), show σ77 80 = σ 80 from ((f79 80 (of_decide_eq_true rfl)).trans (f54 80 (of_decide_eq_true rfl))), show σ77 81 = σ 81 from ((f79 81 (of_decide_eq_true rfl)).trans (f54 81 (of_decide_eq_true rfl))), show (σ77 55 47).toInt = (σ 55 47).toInt from by omega]; exact hr7), (show jKd (σ77 39) (σ77 70) (σ77 55 32).toInt by rw [show σ77 39 = σ 39 from ((f79 39 (of_decide_eq_true rfl)).trans (f54 39 (of_decide_eq_true rfl))), show σ77 70 = σ 70 from ((f79 70 (of_decide_eq_true rfl)).trans (f54 70 (of_decide_eq_true rfl))), show (σ77 55 32).toInt = (σ 55 32).toInt from by omega]; exact hr8), (show jTt (σ77 42) (σ77 85) (σ77 55 55).toInt by rw [show σ77 42 = σ 42 from ((f79 42 (of_decide_eq_true rfl)).trans (f54 42 (of_decide_eq_true rfl))), show σ77 85 = σ 85 from ((f79 85 (of_decide_eq_true rfl)).trans (f54 85 (of_decide_eq_true rfl))), show (σ77 55 55).toInt = (σ 55 55).toInt from by omega]; exact hr9)⟩ hP hS (lv_sub hl [0, 1, 2, 3] rfl)
          · obtain ⟨q152, k146, k147, k148, k149, k150, k151⟩ := h97
            exact absurd (by omega : False) id
          · obtain ⟨q160, k153, k154, k155, k156, k157, k158, k159⟩ := h98
            exact absurd (by omega : False) id
     · obtain ⟨q167, k161, k162, k163, k164, k165, k166⟩ := h68
       have q167 := q167.symm
       subst q167
       refine lv_pop hx hb dL_law_215 rfl ?_
       refine lv_aload_n hx hb dL_law_216 rfl (lv_at hl 1 rfl) ?_
       refine lv_aload_n hx hb dL_law_217 rfl (lv_at hl 3 rfl) ?_
       refine lv_iload_n hx hb dL_law_218 rfl (lv_at hl 0 rfl) ?_
       refine lv_iconst (v := 1) hx hb dL_law_219 (of_decide_eq_true rfl) ?_
       refine lv_iadd hx hb dL_law_220 ?_
       refine jtopr ex46.symm ?_
       exact by
        refine va_sld hx hb hX hbl hbA hS (jin tx46 (by omega) (by omega)) dL_law_221 ?_
        refine lv_aload_n hx hb dL_law_222 rfl (lv_at hl 3 rfl) ?_
        refine lv_iload_n hx hb dL_law_223 rfl (lv_at hl 0 rfl) ?_
        refine lv_iconst (v := 2) hx hb dL_law_224 (of_decide_eq_true rfl) ?_
        refine lv_iadd hx hb dL_law_225 ?_
        refine jtopr ex48.symm ?_
        refine va_sld hx hb hX hbl hbA hS (jin tx48 (by omega) (by omega)) dL_law_226 ?_
        refine lv_aload_n hx hb dL_law_227 rfl (lv_at hl 3 rfl) ?_
        refine lv_iload_n hx hb dL_law_228 rfl (lv_at hl 0 rfl) ?_
        exact by
         refine lv_iconst (v := 3) hx hb dL_law_229 (of_decide_eq_true rfl) ?_
         refine lv_iadd hx hb dL_law_230 ?_
         refine jtopr ex50.symm ?_
         refine va_sld hx hb hX hbl hbA hS (jin tx50 (by omega) (by omega)) dL_law_231 ?_
         have I168 : jI101 σ52 := jI101_fr (congrFun (f54 55 (of_decide_eq_true rfl)) 4) (congrFun (f54 55 (of_decide_eq_true rfl)) 5) (f54 56 (of_decide_eq_true rfl)) (f54 57 (of_decide_eq_true rfl)) (f54 58 (of_decide_eq_true rfl)) (f54 59 (of_decide_eq_true rfl)) hI101
         have I169 : jI102 σ52 := jI102_fr (congrFun (f54 55 (of_decide_eq_true rfl)) 6) (f54 60 (of_decide_eq_true rfl)) (f54 61 (of_decide_eq_true rfl)) hI102
         have z170 : (σ52 55 6).toInt = (σ 55 6).toInt := (congrArg Int32.toInt (show σ52 55 6 = (σ 55 6) from (congrFun (f54 55 (of_decide_eq_true rfl)) 6)))
         refine jcallV (As := [.int (xs x46.toNatClampNeg), .int (xs x48.toNatClampNeg), .int (xs x50.toNatClampNeg)]) (rest := []) ⟨hx, hb, hml, hown, hts⟩ hK hP hA hS hZ (c_X12_bowler l D cI cL ad zz hJ σ52 τ (xs x46.toNatClampNeg) ((xs x46.toNatClampNeg).toInt) rfl (xs x48.toNatClampNeg) ((xs x48.toNatClampNeg).toInt) rfl (xs x50.toNatClampNeg) ((xs x50.toNatClampNeg).toInt) rfl I168 I169) cw_RL_17 (jc_55 cI cL ad σ52 τ) rfl ⟨Nat.le_of_ble_eq_true rfl, Nat.le_of_ble_eq_true rfl⟩ rfl rfl rfl hl.1 rfl (Nat.le_of_ble_eq_true rfl) dL_law_232 ⟨Nat.le_of_ble_eq_true rfl, Nat.le_of_ble_eq_true rfl⟩ (fun r172 σ171 τ171 H locs h171 hP hS => ?_)
         obtain ⟨rfl, f173, f174, I175, I176, h171⟩ := h171
         exact by
          obtain ⟨i178, i179, i180, w181, w182, w183, w184⟩ : (0 ≤ (σ171 55 5).toInt) ∧ ((σ171 55 5).toInt ≤ (σ171 55 4).toInt) ∧ ((σ171 55 4).toInt ≤ 40) ∧ (∀ k : Nat, k < 68 → (-200) ≤ (σ171 56 k).toInt ∧ (σ171 56 k).toInt ≤ 500) ∧ (∀ k : Nat, k < 40 → 0 ≤ (σ171 57 k).toInt ∧ (σ171 57 k).toInt ≤ 67) ∧ (∀ k : Nat, k < 40 → (-200) ≤ (σ171 58 k).toInt ∧ (σ171 58 k).toInt ≤ 500) ∧ (∀ k : Nat, k < 40 → (-200) ≤ (σ171 59 k).toInt ∧ (σ171 59 k).toInt ≤ 500) := id I175
          obtain ⟨i185, w186, w187⟩ : (0 ≤ (σ171 55 6).toInt ∧ (σ171 55 6).toInt ≤ 4) ∧ (∀ k : Nat, k < 4 → 0 ≤ (σ171 60 k).toInt ∧ (σ171 60 k).toInt ≤ 50) ∧ (∀ k : Nat, k < 4 → 0 ≤ (σ171 61 k).toInt ∧ (σ171 61 k).toInt ≤ 20) := id I176
          have z188 : (σ171 55 5).toInt = (σ 55 5).toInt := (congrArg Int32.toInt (show σ171 55 5 = (σ 55 5) from ((f174 5 (of_decide_eq_true rfl)).trans (congrFun (f54 55 (of_decide_eq_true rfl)) 5))))
          have z189 : (σ171 55 4).toInt = (σ 55 4).toInt := (congrArg Int32.toInt (show σ171 55 4 = (σ 55 4) from ((f174 4 (of_decide_eq_true rfl)).trans (congrFun (f54 55 (of_decide_eq_true rfl)) 4))))
          rcases h171 with h190 | h191 | h192
          · obtain ⟨q196, k193, k194, k195⟩ := h190
            exact absurd (by omega : False) id
          · obtain ⟨q203, k197, k198, k199, k200, k201, k202⟩ := h191
            have q203 := q203.symm
            subst q203
            refine lv_pop hx hb dL_law_235 rfl ?_
            refine lv_goto (tgt := 1357) hx hb dL_law_236 (of_decide_eq_true rfl) ?_
            obtain ⟨x204, ex204⟩ : ∃ y : Int32, y = x0 + 6 := ⟨_, rfl⟩
            exact by
             have tx204 : x204.toInt = x0.toInt + 6 := (jadd ex204 rfl jz_6 (by omega) (by omega)).trans (by omega)
             refine lv_iinc (v := x204) (lv' := [(3, .int x204), (2, .ref (ad 55)), (1, .ref (ad 0)), (0, .ref b)]) hx hb dL_law_1357 hl (k := 0) rfl (by rw [ex204]; rfl) (of_decide_eq_true rfl) rfl (fun ls hl => ?_)
             refine lv_goto (tgt := 18) hx hb dL_law_1360 (of_decide_eq_true rfl) ?_
             have I205 : jI2 σ171 := jI2_fr (congrFun (f173 2 (of_decide_eq_true rfl)) 0) (congrFun (f173 2 (of_decide_eq_true rfl)) 1) (congrFun (f173 2 (of_decide_eq_true rfl)) 2) (congrFun (f173 2 (of_decide_eq_true rfl)) 3) (f173 6 (of_decide_eq_true rfl)) I56
             have I206 : jI9 σ171 := jI9_fr ((congrFun (f173 9 (of_decide_eq_true rfl)) 0).trans (congrFun (f54 9 (of_decide_eq_true rfl)) 0)) ((f173 10 (of_decide_eq_true rfl)).trans (f54 10 (of_decide_eq_true rfl))) ((f173 11 (of_decide_eq_true rfl)).trans (f54 11 (of_decide_eq_true rfl))) hI9
             have I207 : jI12 σ171 := jI12_fr ((congrFun (f173 12 (of_decide_eq_true rfl)) 0).trans (congrFun (f54 12 (of_decide_eq_true rfl)) 0)) ((f173 13 (of_decide_eq_true rfl)).trans (f54 13 (of_decide_eq_true rfl))) hI12
             have I208 : jI16 σ171 := jI16_fr ((congrFun (f173 16 (of_decide_eq_true rfl)) 0).trans (congrFun (f54 16 (of_decide_eq_true rfl)) 0)) ((congrFun (f173 16 (of_decide_eq_true rfl)) 1).trans (congrFun (f54 16 (of_decide_eq_true rfl)) 1)) ((congrFun (f173 16 (of_decide_eq_true rfl)) 2).trans (congrFun (f54 16 (of_decide_eq_true rfl)) 2)) ((f173 17 (of_decide_eq_true rfl)).trans (f54 17 (of_decide_eq_true rfl))) hI16
             have I209 : jI18 σ171 := jI18_fr ((congrFun (f173 18 (of_decide_eq_true rfl)) 0).trans (congrFun (f54 18 (of_decide_eq_true rfl)) 0)) ((f173 19 (of_decide_eq_true rfl)).trans (f54 19 (of_decide_eq_true rfl))) hI18
             have I210 : jI22 σ171 := jI22_fr ((congrFun (f173 22 (of_decide_eq_true rfl)) 0).trans (congrFun (f54 22 (of_decide_eq_true rfl)) 0)) ((f173 23 (of_decide_eq_true rfl)).trans (f54 23 (of_decide_eq_true rfl))) hI22
             exact by
              have I211 : jI31 σ171 := jI31_fr ((congrFun (f173 31 (of_decide_eq_true rfl)) 8).trans (congrFun (f54 31 (of_decide_eq_true rfl)) 8)) ((f173 33 (of_decide_eq_true rfl)).trans (f54 33 (of_decide_eq_true rfl))) ((f173 36 (of_decide_eq_true rfl)).trans (f54 36 (of_decide_eq_true rfl))) hI31
              have I212 : jI38 σ171 := jI38_fr ((congrFun (f173 38 (of_decide_eq_true rfl)) 0).trans (congrFun (f54 38 (of_decide_eq_true rfl)) 0)) ((congrFun (f173 38 (of_decide_eq_true rfl)) 1).trans (congrFun (f54 38 (of_decide_eq_true rfl)) 1)) ((f173 39 (of_decide_eq_true rfl)).trans (f54 39 (of_decide_eq_true rfl))) hI38
              have I213 : jI43 σ171 := jI43_fr ((congrFun (f173 43 (of_decide_eq_true rfl)) 8).trans (congrFun (f54 43 (of_decide_eq_true rfl)) 8)) hI43
              have I214 : jI47 σ171 := jI47_fr ((congrFun (f173 47 (of_decide_eq_true rfl)) 0).trans (congrFun (f54 47 (of_decide_eq_true rfl)) 0)) ((f173 48 (of_decide_eq_true rfl)).trans (f54 48 (of_decide_eq_true rfl))) ((f173 49 (of_decide_eq_true rfl)).trans (f54 49 (of_decide_eq_true rfl))) hI47
              have I215 : jI50 σ171 := jI50_fr ((f173 52 (of_decide_eq_true rfl)).trans (f54 52 (of_decide_eq_true rfl))) hI50
              have I216 : jI103 σ171 := jI103_fr ((f174 9 (of_decide_eq_true rfl)).trans (congrFun (f54 55 (of_decide_eq_true rfl)) 9)) hI103
              have I217 : jI104 σ171 := jI104_fr ((f174 10 (of_decide_eq_true rfl)).trans (congrFun (f54 55 (of_decide_eq_true rfl)) 10)) ((f174 12 (of_decide_eq_true rfl)).trans (congrFun (f54 55 (of_decide_eq_true rfl)) 12)) ((f174 13 (of_decide_eq_true rfl)).trans (congrFun (f54 55 (of_decide_eq_true rfl)) 13)) ((f173 62 (of_decide_eq_true rfl)).trans (f54 62 (of_decide_eq_true rfl))) ((f173 67 (of_decide_eq_true rfl)).trans (f54 67 (of_decide_eq_true rfl))) hI104
              have I218 : jI105 σ171 := jI105_fr ((f174 15 (of_decide_eq_true rfl)).trans (congrFun (f54 55 (of_decide_eq_true rfl)) 15)) ((f173 65 (of_decide_eq_true rfl)).trans (f54 65 (of_decide_eq_true rfl))) hI105
              have I219 : jI106 σ171 := jI106_fr ((f174 32 (of_decide_eq_true rfl)).trans (congrFun (f54 55 (of_decide_eq_true rfl)) 32)) ((f173 70 (of_decide_eq_true rfl)).trans (f54 70 (of_decide_eq_true rfl))) ((f173 71 (of_decide_eq_true rfl)).trans (f54 71 (of_decide_eq_true rfl))) ((f173 72 (of_decide_eq_true rfl)).trans (f54 72 (of_decide_eq_true rfl))) hI106
              have I220 : jI107 σ171 := jI107_fr ((f174 12 (of_decide_eq_true rfl)).trans (congrFun (f54 55 (of_decide_eq_true rfl)) 12)) ((f174 47 (of_decide_eq_true rfl)).trans (congrFun (f54 55 (of_decide_eq_true rfl)) 47)) ((f173 80 (of_decide_eq_true rfl)).trans (f54 80 (of_decide_eq_true rfl))) hI107
              have I221 : jI109 σ171 := jI109_fr ((f174 50 (of_decide_eq_true rfl)).trans (congrFun (f54 55 (of_decide_eq_true rfl)) 50)) hI109
              have I222 : jI110 σ171 := jI110_fr ((f173 86 (of_decide_eq_true rfl)).trans (f54 86 (of_decide_eq_true rfl))) ((f173 87 (of_decide_eq_true rfl)).trans (f54 87 (of_decide_eq_true rfl))) hI110
              have I223 : jI111 σ171 := jI111_fr ((f173 79 (of_decide_eq_true rfl)).trans (f54 79 (of_decide_eq_true rfl))) hI111
              have I224 : jI119 σ171 := jI119_fr ((f173 68 (of_decide_eq_true rfl)).trans (f54 68 (of_decide_eq_true rfl))) hI119
              have p225 : jKept σ171 := jKept.fr ((f173 75 (of_decide_eq_true rfl)).trans (f54 75 (of_decide_eq_true rfl))) ((f173 76 (of_decide_eq_true rfl)).trans (f54 76 (of_decide_eq_true rfl))) ((f173 77 (of_decide_eq_true rfl)).trans (f54 77 (of_decide_eq_true rfl))) hs_jKept
              have p226 : jBook σ171 := jBook.fr ((f174 47 (of_decide_eq_true rfl)).trans (congrFun (f54 55 (of_decide_eq_true rfl)) 47)) ((f174 10 (of_decide_eq_true rfl)).trans (congrFun (f54 55 (of_decide_eq_true rfl)) 10)) ((f173 81 (of_decide_eq_true rfl)).trans (f54 81 (of_decide_eq_true rfl))) hs_jBook
              have z227 : (σ171 2 0).toInt = (σ52 2 0).toInt := (congrArg Int32.toInt (show σ171 2 0 = (σ52 2 0) from (congrFun (f173 2 (of_decide_eq_true rfl)) 0)))
              have z228 : (σ171 2 2).toInt = (σ 2 2).toInt := (congrArg Int32.toInt (show σ171 2 2 = (σ 2 2) from ((congrFun (f173 2 (of_decide_eq_true rfl)) 2).trans (f55 2 (of_decide_eq_true rfl)))))
              have z229 : (σ171 2 3).toInt = (σ 2 3).toInt := (congrArg Int32.toInt (show σ171 2 3 = (σ 2 3) from ((congrFun (f173 2 (of_decide_eq_true rfl)) 3).trans (f55 3 (of_decide_eq_true rfl)))))
              have z230 : (σ171 9 0).toInt = (σ 9 0).toInt := (congrArg Int32.toInt (show σ171 9 0 = (σ 9 0) from ((congrFun (f173 9 (of_decide_eq_true rfl)) 0).trans (congrFun (f54 9 (of_decide_eq_true rfl)) 0))))
              have z231 : (σ171 55 15).toInt = (σ 55 15).toInt := (congrArg Int32.toInt (show σ171 55 15 = (σ 55 15) from ((f174 15 (of_decide_eq_true rfl)).trans (congrFun (f54 55 (of_decide_eq_true rfl)) 15))))
              have z232 : (σ171 16 0).toInt = (σ 16 0).toInt := (congrArg Int32.toInt (show σ171 16 0 = (σ 16 0) from ((congrFun (f173 16 (of_decide_eq_true rfl)) 0).trans (congrFun (f54 16 (of_decide_eq_true rfl)) 0))))
              have z233 : (σ171 55 10).toInt = (σ 55 10).toInt := (congrArg Int32.toInt (show σ171 55 10 = (σ 55 10) from ((f174 10 (of_decide_eq_true rfl)).trans (congrFun (f54 55 (of_decide_eq_true rfl)) 10))))
              have z234 : (σ171 16 1).toInt = (σ 16 1).toInt := (congrArg Int32.toInt (show σ171 16 1 = (σ 16 1) from ((congrFun (f173 16 (of_decide_eq_true rfl)) 1).trans (congrFun (f54 16 (of_decide_eq_true rfl)) 1))))
              have z235 : (σ171 55 12).toInt = (σ 55 12).toInt := (congrArg Int32.toInt (show σ171 55 12 = (σ 55 12) from ((f174 12 (of_decide_eq_true rfl)).trans (congrFun (f54 55 (of_decide_eq_true rfl)) 12))))
              have z236 : (σ171 16 2).toInt = (σ 16 2).toInt := (congrArg Int32.toInt (show σ171 16 2 = (σ 16 2) from ((congrFun (f173 16 (of_decide_eq_true rfl)) 2).trans (congrFun (f54 16 (of_decide_eq_true rfl)) 2))))
              have z237 : (σ171 55 13).toInt = (σ 55 13).toInt := (congrArg Int32.toInt (show σ171 55 13 = (σ 55 13) from ((f174 13 (of_decide_eq_true rfl)).trans (congrFun (f54 55 (of_decide_eq_true rfl)) 13))))
              have z238 : (σ171 38 0).toInt = (σ 38 0).toInt := (congrArg Int32.toInt (show σ171 38 0 = (σ 38 0) from ((congrFun (f173 38 (of_decide_eq_true rfl)) 0).trans (congrFun (f54 38 (of_decide_eq_true rfl)) 0))))
              have z239 : (σ171 55 32).toInt = (σ 55 32).toInt := (congrArg Int32.toInt (show σ171 55 32 = (σ 55 32) from ((f174 32 (of_decide_eq_true rfl)).trans (congrFun (f54 55 (of_decide_eq_true rfl)) 32))))
              have z240 : (σ171 38 1).toInt = (σ 38 1).toInt := (congrArg Int32.toInt (show σ171 38 1 = (σ 38 1) from ((congrFun (f173 38 (of_decide_eq_true rfl)) 1).trans (congrFun (f54 38 (of_decide_eq_true rfl)) 1))))
              have z241 : (σ171 55 55).toInt = (σ 55 55).toInt := (congrArg Int32.toInt (show σ171 55 55 = (σ 55 55) from ((f174 55 (of_decide_eq_true rfl)).trans (congrFun (f54 55 (of_decide_eq_true rfl)) 55))))
              have z242 : (σ171 47 0).toInt = (σ 47 0).toInt := (congrArg Int32.toInt (show σ171 47 0 = (σ 47 0) from ((congrFun (f173 47 (of_decide_eq_true rfl)) 0).trans (congrFun (f54 47 (of_decide_eq_true rfl)) 0))))
              have z243 : (σ171 55 47).toInt = (σ 55 47).toInt := (congrArg Int32.toInt (show σ171 55 47 = (σ 55 47) from ((f174 47 (of_decide_eq_true rfl)).trans (congrFun (f54 55 (of_decide_eq_true rfl)) 47))))
              have z244 : (σ171 55 30).toInt = (σ 55 30).toInt := (congrArg Int32.toInt (show σ171 55 30 = (σ 55 30) from ((f174 30 (of_decide_eq_true rfl)).trans (congrFun (f54 55 (of_decide_eq_true rfl)) 30))))
              have z245 : (σ171 55 31).toInt = (σ 55 31).toInt := (congrArg Int32.toInt (show σ171 55 31 = (σ 55 31) from ((f174 31 (of_decide_eq_true rfl)).trans (congrFun (f54 55 (of_decide_eq_true rfl)) 31))))
              exact by exact ih x204 σ171 τ _ _ ls (by have h9 := tx204; omega) ⟨I205, I206, I207, I208, I209, I210, I211, I212, I213, I214, I215, I175, I176, I216, I217, I218, I219, I220, I221, I222, I223, I224, p225, p226, (by omega), (by omega), (by omega), (by omega), (by omega), (by omega), (by omega), (by omega), (by omega), (by omega), (by omega), (by omega), (show jNumP (σ171 3) (σ171 56) (σ171 6) (σ171 57) (σ171 7) (σ171 58) (σ171 8) (σ171 59) (σ171 55 6).toInt (σ171 55 4).toInt by rw [show σ171 3 = σ 3 from ((f173 3 (of_decide_eq_true rfl)).trans k166), show σ171 56 = σ 56 from (k202.trans (f54 56 (of_decide_eq_true rfl))), show σ171 6 = σ 6 from ((f173 6 (of_decide_eq_true rfl)).trans (f54 6 (of_decide_eq_true rfl))), show σ171 57 = σ 57 from ((f173 57 (of_decide_eq_true rfl)).trans (f54 57 (of_decide_eq_true rfl))), show σ171 7 = σ 7 from ((f173 7 (of_decide_eq_true rfl)).trans (f54 7 (of_decide_eq_true rfl))), show σ171 58 = σ 58 from ((f173 58 (of_decide_eq_true rfl)).trans (f54 58 (of_decide_eq_true rfl))), show σ171 8 = σ 8 from ((f173 8 (of_decide_eq_true rfl)).trans (f54 8 (of_decide_eq_true rfl))), show σ171 59 = σ 59 from ((f173 59 (of_decide_eq_true rfl)).trans (f54 59 (of_decide_eq_true rfl))), show (σ171 55 6).toInt = (σ 55 6).toInt from by omega, show (σ171 55 4).toInt = (σ 55 4).toInt from by omega]; exact hr0), (show jOvP (σ171 56) (σ171 57) (σ171 58) (σ171 59) (σ171 55 4).toInt by rw [show σ171 56 = σ 56 from (k202.trans (f54 56 (of_decide_eq_true rfl))), show σ171 57 = σ 57 from ((f173 57 (of_decide_eq_true rfl)).trans (f54 57 (of_decide_eq_true rfl))), show σ171 58 = σ 58 from ((f173 58 (of_decide_eq_true rfl)).trans (f54 58 (of_decide_eq_true rfl))), show σ171 59 = σ 59 from ((f173 59 (of_decide_eq_true rfl)).trans (f54 59 (of_decide_eq_true rfl))), show (σ171 55 4).toInt = (σ 55 4).toInt from by omega]; exact hr1), (show jTp (σ171 10) (σ171 63) (σ171 55 15).toInt by rw [show σ171 10 = σ 10 from ((f173 10 (of_decide_eq_true rfl)).trans (f54 10 (of_decide_eq_true rfl))), show σ171 63 = σ 63 from ((f173 63 (of_decide_eq_true rfl)).trans (f54 63 (of_decide_eq_true rfl)))]; exact hr2.le (by omega)), (show jSo (σ171 17) (σ171 62) (σ171 16 0).toInt by rw [show σ171 17 = σ 17 from ((f173 17 (of_decide_eq_true rfl)).trans (f54 17 (of_decide_eq_true rfl))), show σ171 62 = σ 62 from ((f173 62 (of_decide_eq_true rfl)).trans (f54 62 (of_decide_eq_true rfl))), show (σ171 16 0).toInt = (σ 16 0).toInt from by omega]; exact hr3), (show jShP (σ171 51) (σ171 52) (σ171 53) (σ171 86) (σ171 87) (σ171 55 32).toInt by rw [show σ171 51 = σ 51 from ((f173 51 (of_decide_eq_true rfl)).trans (f54 51 (of_decide_eq_true rfl))), show σ171 52 = σ 52 from ((f173 52 (of_decide_eq_true rfl)).trans (f54 52 (of_decide_eq_true rfl))), show σ171 53 = σ 53 from ((f173 53 (of_decide_eq_true rfl)).trans (f54 53 (of_decide_eq_true rfl))), show σ171 86 = σ 86 from ((f173 86 (of_decide_eq_true rfl)).trans (f54 86 (of_decide_eq_true rfl))), show σ171 87 = σ 87 from ((f173 87 (of_decide_eq_true rfl)).trans (f54 87 (of_decide_eq_true rfl)))]; exact (hr4.up (by omega) (by omega))), (show jEl (σ171 51) (σ171 52) (τ 54) (τ 88) by rw [show σ171 51 = σ 51 from ((f173 51 (of_decide_eq_true rfl)).trans (f54 51 (of_decide_eq_true rfl))), show σ171 52 = σ 52 from ((f173 52 (of_decide_eq_true rfl)).trans (f54 52 (of_decide_eq_true rfl)))]; exact hr5), (show jByP (σ171 51) (σ171 52) (τ 54) by rw [show σ171 51 = σ 51 from ((f173 51 (of_decide_eq_true rfl)).trans (f54 51 (of_decide_eq_true rfl))), show σ171 52 = σ 52 from ((f173 52 (of_decide_eq_true rfl)).trans (f54 52 (of_decide_eq_true rfl)))]; exact hr6), (show jBk (σ171 48) (σ171 80) (σ171 49) (σ171 81) (σ171 55 47).toInt by rw [show σ171 48 = σ 48 from ((f173 48 (of_decide_eq_true rfl)).trans (f54 48 (of_decide_eq_true rfl))), show σ171 49 = σ 49 from ((f173 49 (of_decide_eq_true rfl)).trans (f54 49 (of_decide_eq_true rfl))), show σ171 80 = σ 80 from ((f173 80 (of_decide_eq_true rfl)).trans (f54 80 (of_decide_eq_true rfl))), show σ171 81 = σ 81 from ((f173 81 (of_decide_eq_true rfl)).trans (f54 81 (of_decide_eq_true rfl))), show (σ171 55 47).toInt = (σ 55 47).toInt from by omega]; exact hr7), (show jKd (σ171 39) (σ171 70) (σ171 55 32).toInt by rw [show σ171 39 = σ 39 from ((f173 39 (of_decide_eq_true rfl)).trans (f54 39 (of_decide_eq_true rfl))), show σ171 70 = σ 70 from ((f173 70 (of_decide_eq_true rfl)).trans (f54 70 (of_decide_eq_true rfl))), show (σ171 55 32).toInt = (σ 55 32).toInt from by omega]; exact hr8), (show jTt (σ171 42) (σ171 85) (σ171 55 55).toInt by rw [show σ171 42 = σ 42 from ((f173 42 (of_decide_eq_true rfl)).trans (f54 42 (of_decide_eq_true rfl))), show σ171 85 = σ 85 from ((f173 85 (of_decide_eq_true rfl)).trans (f54 85 (of_decide_eq_true rfl))), show (σ171 55 55).toInt = (σ 55 55).toInt from by omega]; exact hr9)⟩ hP hS (lv_sub hl [0, 1, 2, 3] rfl)
          · obtain ⟨q254, k247, k248, k249, k250, k251, k252, k253⟩ := h192
            exact absurd (by omega : False) id
     · obtain ⟨q262, k255, k256, k257, k258, k259, k260, k261⟩ := h69
       refine lv_pop hx hb dL_law_215 rfl ?_
       refine lv_aload_n hx hb dL_law_216 rfl (lv_at hl 1 rfl) ?_
       refine lv_aload_n hx hb dL_law_217 rfl (lv_at hl 3 rfl) ?_
       refine lv_iload_n hx hb dL_law_218 rfl (lv_at hl 0 rfl) ?_
       refine lv_iconst (v := 1) hx hb dL_law_219 (of_decide_eq_true rfl) ?_
       refine lv_iadd hx hb dL_law_220 ?_
       refine jtopr ex46.symm ?_
       exact by
        refine va_sld hx hb hX hbl hbA hS (jin tx46 (by omega) (by omega)) dL_law_221 ?_
        refine lv_aload_n hx hb dL_law_222 rfl (lv_at hl 3 rfl) ?_
        refine lv_iload_n hx hb dL_law_223 rfl (lv_at hl 0 rfl) ?_
        refine lv_iconst (v := 2) hx hb dL_law_224 (of_decide_eq_true rfl) ?_
        refine lv_iadd hx hb dL_law_225 ?_
        refine jtopr ex48.symm ?_
        refine va_sld hx hb hX hbl hbA hS (jin tx48 (by omega) (by omega)) dL_law_226 ?_
        refine lv_aload_n hx hb dL_law_227 rfl (lv_at hl 3 rfl) ?_
        refine lv_iload_n hx hb dL_law_228 rfl (lv_at hl 0 rfl) ?_
        exact by
         refine lv_iconst (v := 3) hx hb dL_law_229 (of_decide_eq_true rfl) ?_
         refine lv_iadd hx hb dL_law_230 ?_
         refine jtopr ex50.symm ?_
         refine va_sld hx hb hX hbl hbA hS (jin tx50 (by omega) (by omega)) dL_law_231 ?_
         have I263 : jI101 σ52 := jI101_fr (congrFun (f54 55 (of_decide_eq_true rfl)) 4) (congrFun (f54 55 (of_decide_eq_true rfl)) 5) (f54 56 (of_decide_eq_true rfl)) (f54 57 (of_decide_eq_true rfl)) (f54 58 (of_decide_eq_true rfl)) (f54 59 (of_decide_eq_true rfl)) hI101
         have I264 : jI102 σ52 := jI102_fr (congrFun (f54 55 (of_decide_eq_true rfl)) 6) (f54 60 (of_decide_eq_true rfl)) (f54 61 (of_decide_eq_true rfl)) hI102
         have z265 : (σ52 55 6).toInt = (σ 55 6).toInt := (congrArg Int32.toInt (show σ52 55 6 = (σ 55 6) from (congrFun (f54 55 (of_decide_eq_true rfl)) 6)))
         refine jcallV (As := [.int (xs x46.toNatClampNeg), .int (xs x48.toNatClampNeg), .int (xs x50.toNatClampNeg)]) (rest := []) ⟨hx, hb, hml, hown, hts⟩ hK hP hA hS hZ (c_X12_bowler l D cI cL ad zz hJ σ52 τ (xs x46.toNatClampNeg) ((xs x46.toNatClampNeg).toInt) rfl (xs x48.toNatClampNeg) ((xs x48.toNatClampNeg).toInt) rfl (xs x50.toNatClampNeg) ((xs x50.toNatClampNeg).toInt) rfl I263 I264) cw_RL_17 (jc_55 cI cL ad σ52 τ) rfl ⟨Nat.le_of_ble_eq_true rfl, Nat.le_of_ble_eq_true rfl⟩ rfl rfl rfl hl.1 rfl (Nat.le_of_ble_eq_true rfl) dL_law_232 ⟨Nat.le_of_ble_eq_true rfl, Nat.le_of_ble_eq_true rfl⟩ (fun r267 σ266 τ266 H locs h266 hP hS => ?_)
         obtain ⟨rfl, f268, f269, I270, I271, h266⟩ := h266
         exact by
          obtain ⟨i273, i274, i275, w276, w277, w278, w279⟩ : (0 ≤ (σ266 55 5).toInt) ∧ ((σ266 55 5).toInt ≤ (σ266 55 4).toInt) ∧ ((σ266 55 4).toInt ≤ 40) ∧ (∀ k : Nat, k < 68 → (-200) ≤ (σ266 56 k).toInt ∧ (σ266 56 k).toInt ≤ 500) ∧ (∀ k : Nat, k < 40 → 0 ≤ (σ266 57 k).toInt ∧ (σ266 57 k).toInt ≤ 67) ∧ (∀ k : Nat, k < 40 → (-200) ≤ (σ266 58 k).toInt ∧ (σ266 58 k).toInt ≤ 500) ∧ (∀ k : Nat, k < 40 → (-200) ≤ (σ266 59 k).toInt ∧ (σ266 59 k).toInt ≤ 500) := id I270
          obtain ⟨i280, w281, w282⟩ : (0 ≤ (σ266 55 6).toInt ∧ (σ266 55 6).toInt ≤ 4) ∧ (∀ k : Nat, k < 4 → 0 ≤ (σ266 60 k).toInt ∧ (σ266 60 k).toInt ≤ 50) ∧ (∀ k : Nat, k < 4 → 0 ≤ (σ266 61 k).toInt ∧ (σ266 61 k).toInt ≤ 20) := id I271
          have z283 : (σ266 55 5).toInt = (σ 55 5).toInt := (congrArg Int32.toInt (show σ266 55 5 = (σ 55 5) from ((f269 5 (of_decide_eq_true rfl)).trans (congrFun (f54 55 (of_decide_eq_true rfl)) 5))))
          have z284 : (σ266 55 4).toInt = (σ 55 4).toInt := (congrArg Int32.toInt (show σ266 55 4 = (σ 55 4) from ((f269 4 (of_decide_eq_true rfl)).trans (congrFun (f54 55 (of_decide_eq_true rfl)) 4))))
          rcases h266 with h285 | h286 | h287
          · obtain ⟨q291, k288, k289, k290⟩ := h285
            exact absurd (by omega : False) id
          · obtain ⟨q298, k292, k293, k294, k295, k296, k297⟩ := h286
            exact absurd (by omega : False) id
          · obtain ⟨q306, k299, k300, k301, k302, k303, k304, k305⟩ := h287
            refine lv_pop hx hb dL_law_235 rfl ?_
            refine lv_goto (tgt := 1357) hx hb dL_law_236 (of_decide_eq_true rfl) ?_
            obtain ⟨x307, ex307⟩ : ∃ y : Int32, y = x0 + 6 := ⟨_, rfl⟩
            exact by
             have tx307 : x307.toInt = x0.toInt + 6 := (jadd ex307 rfl jz_6 (by omega) (by omega)).trans (by omega)
             refine lv_iinc (v := x307) (lv' := [(3, .int x307), (2, .ref (ad 55)), (1, .ref (ad 0)), (0, .ref b)]) hx hb dL_law_1357 hl (k := 0) rfl (by rw [ex307]; rfl) (of_decide_eq_true rfl) rfl (fun ls hl => ?_)
             refine lv_goto (tgt := 18) hx hb dL_law_1360 (of_decide_eq_true rfl) ?_
             have I308 : jI2 σ266 := jI2_fr (congrFun (f268 2 (of_decide_eq_true rfl)) 0) (congrFun (f268 2 (of_decide_eq_true rfl)) 1) (congrFun (f268 2 (of_decide_eq_true rfl)) 2) (congrFun (f268 2 (of_decide_eq_true rfl)) 3) (f268 6 (of_decide_eq_true rfl)) I56
             have I309 : jI9 σ266 := jI9_fr ((congrFun (f268 9 (of_decide_eq_true rfl)) 0).trans (congrFun (f54 9 (of_decide_eq_true rfl)) 0)) ((f268 10 (of_decide_eq_true rfl)).trans (f54 10 (of_decide_eq_true rfl))) ((f268 11 (of_decide_eq_true rfl)).trans (f54 11 (of_decide_eq_true rfl))) hI9
             have I310 : jI12 σ266 := jI12_fr ((congrFun (f268 12 (of_decide_eq_true rfl)) 0).trans (congrFun (f54 12 (of_decide_eq_true rfl)) 0)) ((f268 13 (of_decide_eq_true rfl)).trans (f54 13 (of_decide_eq_true rfl))) hI12
             have I311 : jI16 σ266 := jI16_fr ((congrFun (f268 16 (of_decide_eq_true rfl)) 0).trans (congrFun (f54 16 (of_decide_eq_true rfl)) 0)) ((congrFun (f268 16 (of_decide_eq_true rfl)) 1).trans (congrFun (f54 16 (of_decide_eq_true rfl)) 1)) ((congrFun (f268 16 (of_decide_eq_true rfl)) 2).trans (congrFun (f54 16 (of_decide_eq_true rfl)) 2)) ((f268 17 (of_decide_eq_true rfl)).trans (f54 17 (of_decide_eq_true rfl))) hI16
             have I312 : jI18 σ266 := jI18_fr ((congrFun (f268 18 (of_decide_eq_true rfl)) 0).trans (congrFun (f54 18 (of_decide_eq_true rfl)) 0)) ((f268 19 (of_decide_eq_true rfl)).trans (f54 19 (of_decide_eq_true rfl))) hI18
             have I313 : jI22 σ266 := jI22_fr ((congrFun (f268 22 (of_decide_eq_true rfl)) 0).trans (congrFun (f54 22 (of_decide_eq_true rfl)) 0)) ((f268 23 (of_decide_eq_true rfl)).trans (f54 23 (of_decide_eq_true rfl))) hI22
             exact by
              have I314 : jI31 σ266 := jI31_fr ((congrFun (f268 31 (of_decide_eq_true rfl)) 8).trans (congrFun (f54 31 (of_decide_eq_true rfl)) 8)) ((f268 33 (of_decide_eq_true rfl)).trans (f54 33 (of_decide_eq_true rfl))) ((f268 36 (of_decide_eq_true rfl)).trans (f54 36 (of_decide_eq_true rfl))) hI31
              have I315 : jI38 σ266 := jI38_fr ((congrFun (f268 38 (of_decide_eq_true rfl)) 0).trans (congrFun (f54 38 (of_decide_eq_true rfl)) 0)) ((congrFun (f268 38 (of_decide_eq_true rfl)) 1).trans (congrFun (f54 38 (of_decide_eq_true rfl)) 1)) ((f268 39 (of_decide_eq_true rfl)).trans (f54 39 (of_decide_eq_true rfl))) hI38
              have I316 : jI43 σ266 := jI43_fr ((congrFun (f268 43 (of_decide_eq_true rfl)) 8).trans (congrFun (f54 43 (of_decide_eq_true rfl)) 8)) hI43
              have I317 : jI47 σ266 := jI47_fr ((congrFun (f268 47 (of_decide_eq_true rfl)) 0).trans (congrFun (f54 47 (of_decide_eq_true rfl)) 0)) ((f268 48 (of_decide_eq_true rfl)).trans (f54 48 (of_decide_eq_true rfl))) ((f268 49 (of_decide_eq_true rfl)).trans (f54 49 (of_decide_eq_true rfl))) hI47
              have I318 : jI50 σ266 := jI50_fr ((f268 52 (of_decide_eq_true rfl)).trans (f54 52 (of_decide_eq_true rfl))) hI50
              have I319 : jI103 σ266 := jI103_fr ((f269 9 (of_decide_eq_true rfl)).trans (congrFun (f54 55 (of_decide_eq_true rfl)) 9)) hI103
              have I320 : jI104 σ266 := jI104_fr ((f269 10 (of_decide_eq_true rfl)).trans (congrFun (f54 55 (of_decide_eq_true rfl)) 10)) ((f269 12 (of_decide_eq_true rfl)).trans (congrFun (f54 55 (of_decide_eq_true rfl)) 12)) ((f269 13 (of_decide_eq_true rfl)).trans (congrFun (f54 55 (of_decide_eq_true rfl)) 13)) ((f268 62 (of_decide_eq_true rfl)).trans (f54 62 (of_decide_eq_true rfl))) ((f268 67 (of_decide_eq_true rfl)).trans (f54 67 (of_decide_eq_true rfl))) hI104
              have I321 : jI105 σ266 := jI105_fr ((f269 15 (of_decide_eq_true rfl)).trans (congrFun (f54 55 (of_decide_eq_true rfl)) 15)) ((f268 65 (of_decide_eq_true rfl)).trans (f54 65 (of_decide_eq_true rfl))) hI105
              have I322 : jI106 σ266 := jI106_fr ((f269 32 (of_decide_eq_true rfl)).trans (congrFun (f54 55 (of_decide_eq_true rfl)) 32)) ((f268 70 (of_decide_eq_true rfl)).trans (f54 70 (of_decide_eq_true rfl))) ((f268 71 (of_decide_eq_true rfl)).trans (f54 71 (of_decide_eq_true rfl))) ((f268 72 (of_decide_eq_true rfl)).trans (f54 72 (of_decide_eq_true rfl))) hI106
              have I323 : jI107 σ266 := jI107_fr ((f269 12 (of_decide_eq_true rfl)).trans (congrFun (f54 55 (of_decide_eq_true rfl)) 12)) ((f269 47 (of_decide_eq_true rfl)).trans (congrFun (f54 55 (of_decide_eq_true rfl)) 47)) ((f268 80 (of_decide_eq_true rfl)).trans (f54 80 (of_decide_eq_true rfl))) hI107
              have I324 : jI109 σ266 := jI109_fr ((f269 50 (of_decide_eq_true rfl)).trans (congrFun (f54 55 (of_decide_eq_true rfl)) 50)) hI109
              have I325 : jI110 σ266 := jI110_fr ((f268 86 (of_decide_eq_true rfl)).trans (f54 86 (of_decide_eq_true rfl))) ((f268 87 (of_decide_eq_true rfl)).trans (f54 87 (of_decide_eq_true rfl))) hI110
              have I326 : jI111 σ266 := jI111_fr ((f268 79 (of_decide_eq_true rfl)).trans (f54 79 (of_decide_eq_true rfl))) hI111
              have I327 : jI119 σ266 := jI119_fr ((f268 68 (of_decide_eq_true rfl)).trans (f54 68 (of_decide_eq_true rfl))) hI119
              have p328 : jKept σ266 := jKept.fr ((f268 75 (of_decide_eq_true rfl)).trans (f54 75 (of_decide_eq_true rfl))) ((f268 76 (of_decide_eq_true rfl)).trans (f54 76 (of_decide_eq_true rfl))) ((f268 77 (of_decide_eq_true rfl)).trans (f54 77 (of_decide_eq_true rfl))) hs_jKept
              have p329 : jBook σ266 := jBook.fr ((f269 47 (of_decide_eq_true rfl)).trans (congrFun (f54 55 (of_decide_eq_true rfl)) 47)) ((f269 10 (of_decide_eq_true rfl)).trans (congrFun (f54 55 (of_decide_eq_true rfl)) 10)) ((f268 81 (of_decide_eq_true rfl)).trans (f54 81 (of_decide_eq_true rfl))) hs_jBook
              have z330 : (σ266 2 0).toInt = (σ52 2 0).toInt := (congrArg Int32.toInt (show σ266 2 0 = (σ52 2 0) from (congrFun (f268 2 (of_decide_eq_true rfl)) 0)))
              have z331 : (σ266 2 2).toInt = (σ 2 2).toInt := (congrArg Int32.toInt (show σ266 2 2 = (σ 2 2) from ((congrFun (f268 2 (of_decide_eq_true rfl)) 2).trans (f55 2 (of_decide_eq_true rfl)))))
              have z332 : (σ266 2 3).toInt = (σ 2 3).toInt := (congrArg Int32.toInt (show σ266 2 3 = (σ 2 3) from ((congrFun (f268 2 (of_decide_eq_true rfl)) 3).trans (f55 3 (of_decide_eq_true rfl)))))
              have z333 : (σ266 9 0).toInt = (σ 9 0).toInt := (congrArg Int32.toInt (show σ266 9 0 = (σ 9 0) from ((congrFun (f268 9 (of_decide_eq_true rfl)) 0).trans (congrFun (f54 9 (of_decide_eq_true rfl)) 0))))
              have z334 : (σ266 55 15).toInt = (σ 55 15).toInt := (congrArg Int32.toInt (show σ266 55 15 = (σ 55 15) from ((f269 15 (of_decide_eq_true rfl)).trans (congrFun (f54 55 (of_decide_eq_true rfl)) 15))))
              have z335 : (σ266 16 0).toInt = (σ 16 0).toInt := (congrArg Int32.toInt (show σ266 16 0 = (σ 16 0) from ((congrFun (f268 16 (of_decide_eq_true rfl)) 0).trans (congrFun (f54 16 (of_decide_eq_true rfl)) 0))))
              have z336 : (σ266 55 10).toInt = (σ 55 10).toInt := (congrArg Int32.toInt (show σ266 55 10 = (σ 55 10) from ((f269 10 (of_decide_eq_true rfl)).trans (congrFun (f54 55 (of_decide_eq_true rfl)) 10))))
              have z337 : (σ266 16 1).toInt = (σ 16 1).toInt := (congrArg Int32.toInt (show σ266 16 1 = (σ 16 1) from ((congrFun (f268 16 (of_decide_eq_true rfl)) 1).trans (congrFun (f54 16 (of_decide_eq_true rfl)) 1))))
              have z338 : (σ266 55 12).toInt = (σ 55 12).toInt := (congrArg Int32.toInt (show σ266 55 12 = (σ 55 12) from ((f269 12 (of_decide_eq_true rfl)).trans (congrFun (f54 55 (of_decide_eq_true rfl)) 12))))
              have z339 : (σ266 16 2).toInt = (σ 16 2).toInt := (congrArg Int32.toInt (show σ266 16 2 = (σ 16 2) from ((congrFun (f268 16 (of_decide_eq_true rfl)) 2).trans (congrFun (f54 16 (of_decide_eq_true rfl)) 2))))
              have z340 : (σ266 55 13).toInt = (σ 55 13).toInt := (congrArg Int32.toInt (show σ266 55 13 = (σ 55 13) from ((f269 13 (of_decide_eq_true rfl)).trans (congrFun (f54 55 (of_decide_eq_true rfl)) 13))))
              have z341 : (σ266 38 0).toInt = (σ 38 0).toInt := (congrArg Int32.toInt (show σ266 38 0 = (σ 38 0) from ((congrFun (f268 38 (of_decide_eq_true rfl)) 0).trans (congrFun (f54 38 (of_decide_eq_true rfl)) 0))))
              have z342 : (σ266 55 32).toInt = (σ 55 32).toInt := (congrArg Int32.toInt (show σ266 55 32 = (σ 55 32) from ((f269 32 (of_decide_eq_true rfl)).trans (congrFun (f54 55 (of_decide_eq_true rfl)) 32))))
              have z343 : (σ266 38 1).toInt = (σ 38 1).toInt := (congrArg Int32.toInt (show σ266 38 1 = (σ 38 1) from ((congrFun (f268 38 (of_decide_eq_true rfl)) 1).trans (congrFun (f54 38 (of_decide_eq_true rfl)) 1))))
              have z344 : (σ266 55 55).toInt = (σ 55 55).toInt := (congrArg Int32.toInt (show σ266 55 55 = (σ 55 55) from ((f269 55 (of_decide_eq_true rfl)).trans (congrFun (f54 55 (of_decide_eq_true rfl)) 55))))
              have z345 : (σ266 47 0).toInt = (σ 47 0).toInt := (congrArg Int32.toInt (show σ266 47 0 = (σ 47 0) from ((congrFun (f268 47 (of_decide_eq_true rfl)) 0).trans (congrFun (f54 47 (of_decide_eq_true rfl)) 0))))
              have z346 : (σ266 55 47).toInt = (σ 55 47).toInt := (congrArg Int32.toInt (show σ266 55 47 = (σ 55 47) from ((f269 47 (of_decide_eq_true rfl)).trans (congrFun (f54 55 (of_decide_eq_true rfl)) 47))))
              have z347 : (σ266 55 30).toInt = (σ 55 30).toInt := (congrArg Int32.toInt (show σ266 55 30 = (σ 55 30) from ((f269 30 (of_decide_eq_true rfl)).trans (congrFun (f54 55 (of_decide_eq_true rfl)) 30))))
              have z348 : (σ266 55 31).toInt = (σ 55 31).toInt := (congrArg Int32.toInt (show σ266 55 31 = (σ 55 31) from ((f269 31 (of_decide_eq_true rfl)).trans (congrFun (f54 55 (of_decide_eq_true rfl)) 31))))
              rw [show (σ 2 0).toInt = (σ 55 6).toInt from by omega] at k261
              rw [show σ52 56 = σ 56 from (f54 56 (of_decide_eq_true rfl)), show (σ52 55 6).toInt = (σ 55 6).toInt from by omega] at k305
              exact by
               have p349 := hr0.bowler k261 k305 (by omega) (by omega) (show (σ266 55 6).toInt = (σ 55 6).toInt + 1 from by omega)
               exact by exact ih x307 σ266 τ _ _ ls (by have h9 := tx307; omega) ⟨I308, I309, I310, I311, I312, I313, I314, I315, I316, I317, I318, I270, I271, I319, I320, I321, I322, I323, I324, I325, I326, I327, p328, p329, (by omega), (by omega), (by omega), (by omega), (by omega), (by omega), (by omega), (by omega), (by omega), (by omega), (by omega), (by omega), (show jNumP (σ266 3) (σ266 56) (σ266 6) (σ266 57) (σ266 7) (σ266 58) (σ266 8) (σ266 59) (σ266 55 6).toInt (σ266 55 4).toInt by rw [show σ266 3 = σ52 3 from (f268 3 (of_decide_eq_true rfl)), show σ266 6 = σ 6 from ((f268 6 (of_decide_eq_true rfl)).trans (f54 6 (of_decide_eq_true rfl))), show σ266 57 = σ 57 from ((f268 57 (of_decide_eq_true rfl)).trans (f54 57 (of_decide_eq_true rfl))), show σ266 7 = σ 7 from ((f268 7 (of_decide_eq_true rfl)).trans (f54 7 (of_decide_eq_true rfl))), show σ266 58 = σ 58 from ((f268 58 (of_decide_eq_true rfl)).trans (f54 58 (of_decide_eq_true rfl))), show σ266 8 = σ 8 from ((f268 8 (of_decide_eq_true rfl)).trans (f54 8 (of_decide_eq_true rfl))), show σ266 59 = σ 59 from ((f268 59 (of_decide_eq_true rfl)).trans (f54 59 (of_decide_eq_true rfl))), show (σ266 55 4).toInt = (σ 55 4).toInt from by omega]; exact p349), (show jOvP (σ266 56) (σ266 57) (σ266 58) (σ266 59) (σ266 55 4).toInt by rw [show σ266 57 = σ 57 from ((f268 57 (of_decide_eq_true rfl)).trans (f54 57 (of_decide_eq_true rfl))), show σ266 58 = σ 58 from ((f268 58 (of_decide_eq_true rfl)).trans (f54 58 (of_decide_eq_true rfl))), show σ266 59 = σ 59 from ((f268 59 (of_decide_eq_true rfl)).trans (f54 59 (of_decide_eq_true rfl))), show (σ266 55 4).toInt = (σ 55 4).toInt from by omega]; exact (hr1.bowler k305 (by omega) ⟨by omega, by omega⟩)), (show jTp (σ266 10) (σ266 63) (σ266 55 15).toInt by rw [show σ266 10 = σ 10 from ((f268 10 (of_decide_eq_true rfl)).trans (f54 10 (of_decide_eq_true rfl))), show σ266 63 = σ 63 from ((f268 63 (of_decide_eq_true rfl)).trans (f54 63 (of_decide_eq_true rfl)))]; exact hr2.le (by omega)), (show jSo (σ266 17) (σ266 62) (σ266 16 0).toInt by rw [show σ266 17 = σ 17 from ((f268 17 (of_decide_eq_true rfl)).trans (f54 17 (of_decide_eq_true rfl))), show σ266 62 = σ 62 from ((f268 62 (of_decide_eq_true rfl)).trans (f54 62 (of_decide_eq_true rfl))), show (σ266 16 0).toInt = (σ 16 0).toInt from by omega]; exact hr3), (show jShP (σ266 51) (σ266 52) (σ266 53) (σ266 86) (σ266 87) (σ266 55 32).toInt by rw [show σ266 51 = σ 51 from ((f268 51 (of_decide_eq_true rfl)).trans (f54 51 (of_decide_eq_true rfl))), show σ266 52 = σ 52 from ((f268 52 (of_decide_eq_true rfl)).trans (f54 52 (of_decide_eq_true rfl))), show σ266 53 = σ 53 from ((f268 53 (of_decide_eq_true rfl)).trans (f54 53 (of_decide_eq_true rfl))), show σ266 86 = σ 86 from ((f268 86 (of_decide_eq_true rfl)).trans (f54 86 (of_decide_eq_true rfl))), show σ266 87 = σ 87 from ((f268 87 (of_decide_eq_true rfl)).trans (f54 87 (of_decide_eq_true rfl)))]; exact (hr4.up (by omega) (by omega))), (show jEl (σ266 51) (σ266 52) (τ 54) (τ 88) by rw [show σ266 51 = σ 51 from ((f268 51 (of_decide_eq_true rfl)).trans (f54 51 (of_decide_eq_true rfl))), show σ266 52 = σ 52 from ((f268 52 (of_decide_eq_true rfl)).trans (f54 52 (of_decide_eq_true rfl)))]; exact hr5), (show jByP (σ266 51) (σ266 52) (τ 54) by rw [show σ266 51 = σ 51 from ((f268 51 (of_decide_eq_true rfl)).trans (f54 51 (of_decide_eq_true rfl))), show σ266 52 = σ 52 from ((f268 52 (of_decide_eq_true rfl)).trans (f54 52 (of_decide_eq_true rfl)))]; exact hr6), (show jBk (σ266 48) (σ266 80) (σ266 49) (σ266 81) (σ266 55 47).toInt by rw [show σ266 48 = σ 48 from ((f268 48 (of_decide_eq_true rfl)).trans (f54 48 (of_decide_eq_true rfl))), show σ266 49 = σ 49 from ((f268 49 (of_decide_eq_true rfl)).trans (f54 49 (of_decide_eq_true rfl))), show σ266 80 = σ 80 from ((f268 80 (of_decide_eq_true rfl)).trans (f54 80 (of_decide_eq_true rfl))), show σ266 81 = σ 81 from ((f268 81 (of_decide_eq_true rfl)).trans (f54 81 (of_decide_eq_true rfl))), show (σ266 55 47).toInt = (σ 55 47).toInt from by omega]; exact hr7), (show jKd (σ266 39) (σ266 70) (σ266 55 32).toInt by rw [show σ266 39 = σ 39 from ((f268 39 (of_decide_eq_true rfl)).trans (f54 39 (of_decide_eq_true rfl))), show σ266 70 = σ 70 from ((f268 70 (of_decide_eq_true rfl)).trans (f54 70 (of_decide_eq_true rfl))), show (σ266 55 32).toInt = (σ 55 32).toInt from by omega]; exact hr8), (show jTt (σ266 42) (σ266 85) (σ266 55 55).toInt by rw [show σ266 42 = σ 42 from ((f268 42 (of_decide_eq_true rfl)).trans (f54 42 (of_decide_eq_true rfl))), show σ266 85 = σ 85 from ((f268 85 (of_decide_eq_true rfl)).trans (f54 85 (of_decide_eq_true rfl))), show (σ266 55 55).toInt = (σ 55 55).toInt from by omega]; exact hr9)⟩ hP hS (lv_sub hl [0, 1, 2, 3] rfl)
set_option maxHeartbeats 4000000 in
set_option maxRecDepth 100000 in
theorem law_case_1 {p : Program} {e : Env} {s : State} {m : MethodId} {below : List Frame} {meth : Method} {c : Code} (l : Launch) {b L : Nat} {xs : Nat → Int32} {D : va_G} {cI cL : ClassId} {ad zz : Nat → Nat} (C0 : lw_At p s m meth c b L xs) (hJ : jD ad) (hA : ∀ q, jA ad q → s.heap.size ≤ q) (hK : jK D cI cL s) (hZ : jZ zz (fun q : Nat => s.heap.size ≤ q) s s.heap) {x0 : Int32} (hx0 : 0 ≤ x0.toInt) (hxL : x0.toInt + 6 ≤ (L : Int)) (hL : L ≤ 384) {σ : Nat → Nat → Int32} {τ : Nat → Nat → Int64} {H : Heap} {locs : List Loc} (hS : va_S (fun q : Nat => s.heap.size ≤ q) s.heap H locs) {ls : Array Slot} (hAll : jAll σ τ) (hP : jH D cI cL ad σ τ H) (hl : lv_has ls 4 [(3, .int x0), (2, .ref (ad 55)), (1, .ref (ad 0)), (0, .ref b)]) (ih : ∀ (x1 : Int32) (σ : Nat → Nat → Int32) (τ : Nat → Nat → Int64) (H : Heap) (locs : List Loc) (ls : Array Slot), x1.toInt = x0.toInt + 6 → jAll σ τ → jH D cI cL ad σ τ H → va_S (fun q : Nat => s.heap.size ≤ q) s.heap H locs → lv_has ls 4 [(3, .int x1), (2, .ref (ad 55)), (1, .ref (ad 0)), (0, .ref b)] → W p l e room_1 s m #[Value.ref b] below meth c H locs 90 348600 (lw_Z below #[Value.ref b] s) (F0 m 18 ls [])) : W p l e room_1 s m #[Value.ref b] below meth c H locs 90 348600 (lw_Z below #[Value.ref b] s) (F0 m 239 ls []) := by
  obtain ⟨hx, hb, hr, hml, hown, hts0, hX, hbl, hlocks, hgv⟩ := C0
  have hts : ∀ w ∈ wsL_law, w.before #[Value.ref b] s = true := fun w h => hts0 w (wsL_law_in w h)
  have hbA : ¬ (fun q : Nat => s.heap.size ≤ q) b := Nat.not_le.mpr hbl
  have hown : s.vm.findClass RL = some m.cls := hown
  obtain ⟨hI2, hI9, hI12, hI16, hI18, hI22, hI31, hI38, hI43, hI47, hI50, hI101, hI102, hI103, hI104, hI105, hI106, hI107, hI109, hI110, hI111, hI119, hs_jKept, hs_jBook, ht0, ht1, ht2, ht3, ht4, ht5, ht6, ht7, ht8, ht9, ht10, ht11, hr0, hr1, hr2, hr3, hr4, hr5, hr6, hr7, hr8, hr9⟩ := hAll
  have hL9 : (L : Int) ≤ 384 := by omega
  obtain ⟨i1, i2, i3, i4, i5, w6⟩ : (0 ≤ (σ 2 0).toInt ∧ (σ 2 0).toInt ≤ 4) ∧ (0 ≤ (σ 2 1).toInt ∧ (σ 2 1).toInt ≤ 3) ∧ (0 ≤ (σ 2 2).toInt) ∧ (0 ≤ (σ 2 3).toInt) ∧ ((σ 2 2).toInt + (σ 2 3).toInt ≤ 40) ∧ (∀ k : Nat, k < 40 → 0 ≤ (σ 6 k).toInt ∧ (σ 6 k).toInt ≤ 67) := id hI2
  obtain ⟨i7, w8, w9⟩ : (0 ≤ (σ 9 0).toInt ∧ (σ 9 0).toInt ≤ 80) ∧ (∀ k : Nat, k < 80 → 0 ≤ (σ 10 k).toInt ∧ (σ 10 k).toInt ≤ 255) ∧ (∀ k : Nat, k < 8 → 0 ≤ (σ 11 k).toInt ∧ (σ 11 k).toInt ≤ 3) := id hI9
  obtain ⟨i10, i11, i12, w13⟩ : (1 ≤ (σ 16 0).toInt ∧ (σ 16 0).toInt ≤ 8) ∧ (1 ≤ (σ 16 1).toInt ∧ (σ 16 1).toInt ≤ 12) ∧ (0 ≤ (σ 16 2).toInt ∧ (σ 16 2).toInt ≤ 999) ∧ (∀ k : Nat, k < 8 → 0 ≤ (σ 17 k).toInt ∧ (σ 17 k).toInt ≤ 3) := id hI16
  obtain ⟨i14, i15, w16⟩ : (0 ≤ (σ 38 0).toInt ∧ (σ 38 0).toInt ≤ 20) ∧ (0 ≤ (σ 38 1).toInt ∧ (σ 38 1).toInt ≤ 1000) ∧ (∀ k : Nat, k < 20 → 0 ≤ (σ 39 k).toInt ∧ (σ 39 k).toInt ≤ 6) := id hI38
  obtain ⟨i17, w18, w19⟩ : (0 ≤ (σ 47 0).toInt ∧ (σ 47 0).toInt ≤ 12) ∧ (∀ k : Nat, k < 12 → 0 ≤ (σ 48 k).toInt ∧ (σ 48 k).toInt ≤ 3) ∧ (∀ k : Nat, k < 12 → 0 ≤ (σ 49 k).toInt ∧ (σ 49 k).toInt ≤ 1) := id hI47
  have w20 : ∀ k : Nat, k < 6 → 0 ≤ (σ 52 k).toInt ∧ (σ 52 k).toInt ≤ 60 := hI50
  obtain ⟨i21, i22, i23, w24, w25, w26, w27⟩ : (0 ≤ (σ 55 5).toInt) ∧ ((σ 55 5).toInt ≤ (σ 55 4).toInt) ∧ ((σ 55 4).toInt ≤ 40) ∧ (∀ k : Nat, k < 68 → (-200) ≤ (σ 56 k).toInt ∧ (σ 56 k).toInt ≤ 500) ∧ (∀ k : Nat, k < 40 → 0 ≤ (σ 57 k).toInt ∧ (σ 57 k).toInt ≤ 67) ∧ (∀ k : Nat, k < 40 → (-200) ≤ (σ 58 k).toInt ∧ (σ 58 k).toInt ≤ 500) ∧ (∀ k : Nat, k < 40 → (-200) ≤ (σ 59 k).toInt ∧ (σ 59 k).toInt ≤ 500) := id hI101
  obtain ⟨i28, w29, w30⟩ : (0 ≤ (σ 55 6).toInt ∧ (σ 55 6).toInt ≤ 4) ∧ (∀ k : Nat, k < 4 → 0 ≤ (σ 60 k).toInt ∧ (σ 60 k).toInt ≤ 50) ∧ (∀ k : Nat, k < 4 → 0 ≤ (σ 61 k).toInt ∧ (σ 61 k).toInt ≤ 20) := id hI102
  obtain ⟨i31, i32, i33, w34, w35⟩ : (1 ≤ (σ 55 10).toInt ∧ (σ 55 10).toInt ≤ 8) ∧ (1 ≤ (σ 55 12).toInt ∧ (σ 55 12).toInt ≤ 12) ∧ (0 ≤ (σ 55 13).toInt ∧ (σ 55 13).toInt ≤ 999) ∧ (∀ k : Nat, k < 8 → 0 ≤ (σ 62 k).toInt ∧ (σ 62 k).toInt ≤ 3) ∧ (∀ k : Nat, k < 8 → 0 ≤ (σ 67 k).toInt ∧ (σ 67 k).toInt ≤ 3) := id hI104
  obtain ⟨i36, w37⟩ : (0 ≤ (σ 55 15).toInt ∧ (σ 55 15).toInt ≤ 80) ∧ (∀ k : Nat, k < 2 → (-1) ≤ (σ 65 k).toInt ∧ (σ 65 k).toInt ≤ 80) := id hI105
  obtain ⟨i38, w39, w40, w41⟩ : (0 ≤ (σ 55 32).toInt ∧ (σ 55 32).toInt ≤ 20) ∧ (∀ k : Nat, k < 20 → 0 ≤ (σ 70 k).toInt ∧ (σ 70 k).toInt ≤ 6) ∧ (∀ k : Nat, k < 20 → 0 ≤ (σ 71 k).toInt ∧ (σ 71 k).toInt ≤ 8) ∧ (∀ k : Nat, k < 160 → 0 ≤ (σ 72 k).toInt ∧ (σ 72 k).toInt ≤ 3) := id hI106
  obtain ⟨i42, i43, w44⟩ : (0 ≤ (σ 55 47).toInt ∧ (σ 55 47).toInt ≤ 12) ∧ ((σ 55 47).toInt ≤ (σ 55 12).toInt) ∧ (∀ k : Nat, k < 12 → 0 ≤ (σ 80 k).toInt ∧ (σ 80 k).toInt ≤ 3) := id hI107
  refine lv_aload_n hx hb dL_law_239 rfl (lv_at hl 2 rfl) ?_
  refine lv_aload_n hx hb dL_law_240 rfl (lv_at hl 3 rfl) ?_
  refine lv_iload_n hx hb dL_law_241 rfl (lv_at hl 0 rfl) ?_
  refine lv_iconst (v := 1) hx hb dL_law_242 (of_decide_eq_true rfl) ?_
  have g45 := jrg (rfl : x0.toInt = x0.toInt)
  refine lv_iadd hx hb dL_law_243 ?_
  refine lv_topi (fun x46 ex46 => ?_)
  exact by
   have tx46 : x46.toInt = x0.toInt + 1 := (jadd ex46 rfl jz_1 (by omega) (by omega)).trans (by omega)
   refine va_sld hx hb hX hbl hbA hS (jin tx46 (by omega) (by omega)) dL_law_244 ?_
   have g47 := jrg (rfl : (xs x46.toNatClampNeg).toInt = (xs x46.toNatClampNeg).toInt)
   refine lv_aload_n hx hb dL_law_245 rfl (lv_at hl 3 rfl) ?_
   refine lv_iload_n hx hb dL_law_246 rfl (lv_at hl 0 rfl) ?_
   refine lv_iconst (v := 2) hx hb dL_law_247 (of_decide_eq_true rfl) ?_
   refine lv_iadd hx hb dL_law_248 ?_
   refine lv_topi (fun x48 ex48 => ?_)
   have tx48 : x48.toInt = x0.toInt + 2 := (jadd ex48 rfl jz_2 (by omega) (by omega)).trans (by omega)
   exact by
    refine va_sld hx hb hX hbl hbA hS (jin tx48 (by omega) (by omega)) dL_law_249 ?_
    have g49 := jrg (rfl : (xs x48.toNatClampNeg).toInt = (xs x48.toNatClampNeg).toInt)
    refine lv_aload_n hx hb dL_law_250 rfl (lv_at hl 3 rfl) ?_
    refine lv_iload_n hx hb dL_law_251 rfl (lv_at hl 0 rfl) ?_
    refine lv_iconst (v := 3) hx hb dL_law_252 (of_decide_eq_true rfl) ?_
    refine lv_iadd hx hb dL_law_253 ?_
    refine lv_topi (fun x50 ex50 => ?_)
    have tx50 : x50.toInt = x0.toInt + 3 := (jadd ex50 rfl jz_3 (by omega) (by omega)).trans (by omega)
    refine va_sld hx hb hX hbl hbA hS (jin tx50 (by omega) (by omega)) dL_law_254 ?_
    exact by
     have g51 := jrg (rfl : (xs x50.toNatClampNeg).toInt = (xs x50.toNatClampNeg).toInt)
     refine jcallV (As := [.int (xs x46.toNatClampNeg), .int (xs x48.toNatClampNeg), .int (xs x50.toNatClampNeg)]) (rest := []) ⟨hx, hb, hml, hown, hts⟩ hK hP hA hS hZ (c_X11_edge l D cI cL ad zz hJ σ τ (xs x46.toNatClampNeg) ((xs x46.toNatClampNeg).toInt) rfl (xs x48.toNatClampNeg) ((xs x48.toNatClampNeg).toInt) rfl (xs x50.toNatClampNeg) ((xs x50.toNatClampNeg).toInt) rfl hI2) cw_RL_18 (jc_0 cI cL ad σ τ) rfl ⟨Nat.le_of_ble_eq_true rfl, Nat.le_of_ble_eq_true rfl⟩ rfl rfl rfl hl.1 rfl (Nat.le_of_ble_eq_true rfl) dL_law_255 ⟨Nat.le_of_ble_eq_true rfl, Nat.le_of_ble_eq_true rfl⟩ (fun r53 σ52 τ52 H locs h52 hP hS => ?_)
     obtain ⟨rfl, f54, f55, I56, h52⟩ := h52
     obtain ⟨i58, i59, i60, i61, i62, w63⟩ : (0 ≤ (σ52 2 0).toInt ∧ (σ52 2 0).toInt ≤ 4) ∧ (0 ≤ (σ52 2 1).toInt ∧ (σ52 2 1).toInt ≤ 3) ∧ (0 ≤ (σ52 2 2).toInt) ∧ (0 ≤ (σ52 2 3).toInt) ∧ ((σ52 2 2).toInt + (σ52 2 3).toInt ≤ 40) ∧ (∀ k : Nat, k < 40 → 0 ≤ (σ52 6 k).toInt ∧ (σ52 6 k).toInt ≤ 67) := id I56
     have z64 : (σ52 2 0).toInt = (σ 2 0).toInt := (congrArg Int32.toInt (show σ52 2 0 = (σ 2 0) from (f55 0 (of_decide_eq_true rfl))))
     have z65 : (σ52 2 1).toInt = (σ 2 1).toInt := (congrArg Int32.toInt (show σ52 2 1 = (σ 2 1) from (f55 1 (of_decide_eq_true rfl))))
     rcases h52 with h66 | h67
     · obtain ⟨q72, k68, k69, k70, k71⟩ := h66
       have q72 := q72.symm
       subst q72
       refine lv_pop hx hb dL_law_258 rfl ?_
       refine lv_aload_n hx hb dL_law_259 rfl (lv_at hl 1 rfl) ?_
       refine lv_aload_n hx hb dL_law_260 rfl (lv_at hl 3 rfl) ?_
       refine lv_iload_n hx hb dL_law_261 rfl (lv_at hl 0 rfl) ?_
       refine lv_iconst (v := 1) hx hb dL_law_262 (of_decide_eq_true rfl) ?_
       refine lv_iadd hx hb dL_law_263 ?_
       refine jtopr ex46.symm ?_
       exact by
        refine va_sld hx hb hX hbl hbA hS (jin tx46 (by omega) (by omega)) dL_law_264 ?_
        refine lv_aload_n hx hb dL_law_265 rfl (lv_at hl 3 rfl) ?_
        refine lv_iload_n hx hb dL_law_266 rfl (lv_at hl 0 rfl) ?_
        refine lv_iconst (v := 2) hx hb dL_law_267 (of_decide_eq_true rfl) ?_
        refine lv_iadd hx hb dL_law_268 ?_
        refine jtopr ex48.symm ?_
        refine va_sld hx hb hX hbl hbA hS (jin tx48 (by omega) (by omega)) dL_law_269 ?_
        refine lv_aload_n hx hb dL_law_270 rfl (lv_at hl 3 rfl) ?_
        refine lv_iload_n hx hb dL_law_271 rfl (lv_at hl 0 rfl) ?_
        exact by
         refine lv_iconst (v := 3) hx hb dL_law_272 (of_decide_eq_true rfl) ?_
         refine lv_iadd hx hb dL_law_273 ?_
         refine jtopr ex50.symm ?_
         refine va_sld hx hb hX hbl hbA hS (jin tx50 (by omega) (by omega)) dL_law_274 ?_
         have I73 : jI101 σ52 := jI101_fr (congrFun (f54 55 (of_decide_eq_true rfl)) 4) (congrFun (f54 55 (of_decide_eq_true rfl)) 5) (f54 56 (of_decide_eq_true rfl)) (f54 57 (of_decide_eq_true rfl)) (f54 58 (of_decide_eq_true rfl)) (f54 59 (of_decide_eq_true rfl)) hI101
         have I74 : jI102 σ52 := jI102_fr (congrFun (f54 55 (of_decide_eq_true rfl)) 6) (f54 60 (of_decide_eq_true rfl)) (f54 61 (of_decide_eq_true rfl)) hI102
         have z75 : (σ52 55 5).toInt = (σ 55 5).toInt := (congrArg Int32.toInt (show σ52 55 5 = (σ 55 5) from (congrFun (f54 55 (of_decide_eq_true rfl)) 5)))
         have z76 : (σ52 55 4).toInt = (σ 55 4).toInt := (congrArg Int32.toInt (show σ52 55 4 = (σ 55 4) from (congrFun (f54 55 (of_decide_eq_true rfl)) 4)))
         refine jcallV (As := [.int (xs x46.toNatClampNeg), .int (xs x48.toNatClampNeg), .int (xs x50.toNatClampNeg)]) (rest := []) ⟨hx, hb, hml, hown, hts⟩ hK hP hA hS hZ (c_X12_edge l D cI cL ad zz hJ σ52 τ (xs x46.toNatClampNeg) ((xs x46.toNatClampNeg).toInt) rfl (xs x48.toNatClampNeg) ((xs x48.toNatClampNeg).toInt) rfl (xs x50.toNatClampNeg) ((xs x50.toNatClampNeg).toInt) rfl I73 I74) cw_RL_21 (jc_55 cI cL ad σ52 τ) rfl ⟨Nat.le_of_ble_eq_true rfl, Nat.le_of_ble_eq_true rfl⟩ rfl rfl rfl hl.1 rfl (Nat.le_of_ble_eq_true rfl) dL_law_275 ⟨Nat.le_of_ble_eq_true rfl, Nat.le_of_ble_eq_true rfl⟩ (fun r78 σ77 τ77 H locs h77 hP hS => ?_)
         exact by
          obtain ⟨rfl, f79, f80, I81, h77⟩ := h77
          obtain ⟨i83, i84, i85, w86, w87, w88, w89⟩ : (0 ≤ (σ77 55 5).toInt) ∧ ((σ77 55 5).toInt ≤ (σ77 55 4).toInt) ∧ ((σ77 55 4).toInt ≤ 40) ∧ (∀ k : Nat, k < 68 → (-200) ≤ (σ77 56 k).toInt ∧ (σ77 56 k).toInt ≤ 500) ∧ (∀ k : Nat, k < 40 → 0 ≤ (σ77 57 k).toInt ∧ (σ77 57 k).toInt ≤ 67) ∧ (∀ k : Nat, k < 40 → (-200) ≤ (σ77 58 k).toInt ∧ (σ77 58 k).toInt ≤ 500) ∧ (∀ k : Nat, k < 40 → (-200) ≤ (σ77 59 k).toInt ∧ (σ77 59 k).toInt ≤ 500) := id I81
          rcases h77 with h90 | h91
          · obtain ⟨q96, k92, k93, k94, k95⟩ := h90
            have q96 := q96.symm
            subst q96
            have z97 : (σ52 55 6).toInt = (σ 55 6).toInt := (congrArg Int32.toInt (show σ52 55 6 = (σ 55 6) from (congrFun (f54 55 (of_decide_eq_true rfl)) 6)))
            rw [show (σ52 55 6).toInt = (σ 2 0).toInt from by omega] at k94
            refine lv_pop hx hb dL_law_278 rfl ?_
            refine lv_goto (tgt := 1357) hx hb dL_law_279 (of_decide_eq_true rfl) ?_
            obtain ⟨x98, ex98⟩ : ∃ y : Int32, y = x0 + 6 := ⟨_, rfl⟩
            exact by
             have tx98 : x98.toInt = x0.toInt + 6 := (jadd ex98 rfl jz_6 (by omega) (by omega)).trans (by omega)
             refine lv_iinc (v := x98) (lv' := [(3, .int x98), (2, .ref (ad 55)), (1, .ref (ad 0)), (0, .ref b)]) hx hb dL_law_1357 hl (k := 0) rfl (by rw [ex98]; rfl) (of_decide_eq_true rfl) rfl (fun ls hl => ?_)
             refine lv_goto (tgt := 18) hx hb dL_law_1360 (of_decide_eq_true rfl) ?_
             have I99 : jI2 σ77 := jI2_fr (congrFun (f79 2 (of_decide_eq_true rfl)) 0) (congrFun (f79 2 (of_decide_eq_true rfl)) 1) (congrFun (f79 2 (of_decide_eq_true rfl)) 2) (congrFun (f79 2 (of_decide_eq_true rfl)) 3) (f79 6 (of_decide_eq_true rfl)) I56
             have I100 : jI9 σ77 := jI9_fr ((congrFun (f79 9 (of_decide_eq_true rfl)) 0).trans (congrFun (f54 9 (of_decide_eq_true rfl)) 0)) ((f79 10 (of_decide_eq_true rfl)).trans (f54 10 (of_decide_eq_true rfl))) ((f79 11 (of_decide_eq_true rfl)).trans (f54 11 (of_decide_eq_true rfl))) hI9
             have I101 : jI12 σ77 := jI12_fr ((congrFun (f79 12 (of_decide_eq_true rfl)) 0).trans (congrFun (f54 12 (of_decide_eq_true rfl)) 0)) ((f79 13 (of_decide_eq_true rfl)).trans (f54 13 (of_decide_eq_true rfl))) hI12
             have I102 : jI16 σ77 := jI16_fr ((congrFun (f79 16 (of_decide_eq_true rfl)) 0).trans (congrFun (f54 16 (of_decide_eq_true rfl)) 0)) ((congrFun (f79 16 (of_decide_eq_true rfl)) 1).trans (congrFun (f54 16 (of_decide_eq_true rfl)) 1)) ((congrFun (f79 16 (of_decide_eq_true rfl)) 2).trans (congrFun (f54 16 (of_decide_eq_true rfl)) 2)) ((f79 17 (of_decide_eq_true rfl)).trans (f54 17 (of_decide_eq_true rfl))) hI16
             have I103 : jI18 σ77 := jI18_fr ((congrFun (f79 18 (of_decide_eq_true rfl)) 0).trans (congrFun (f54 18 (of_decide_eq_true rfl)) 0)) ((f79 19 (of_decide_eq_true rfl)).trans (f54 19 (of_decide_eq_true rfl))) hI18
             have I104 : jI22 σ77 := jI22_fr ((congrFun (f79 22 (of_decide_eq_true rfl)) 0).trans (congrFun (f54 22 (of_decide_eq_true rfl)) 0)) ((f79 23 (of_decide_eq_true rfl)).trans (f54 23 (of_decide_eq_true rfl))) hI22
             exact by
              have I105 : jI31 σ77 := jI31_fr ((congrFun (f79 31 (of_decide_eq_true rfl)) 8).trans (congrFun (f54 31 (of_decide_eq_true rfl)) 8)) ((f79 33 (of_decide_eq_true rfl)).trans (f54 33 (of_decide_eq_true rfl))) ((f79 36 (of_decide_eq_true rfl)).trans (f54 36 (of_decide_eq_true rfl))) hI31
              have I106 : jI38 σ77 := jI38_fr ((congrFun (f79 38 (of_decide_eq_true rfl)) 0).trans (congrFun (f54 38 (of_decide_eq_true rfl)) 0)) ((congrFun (f79 38 (of_decide_eq_true rfl)) 1).trans (congrFun (f54 38 (of_decide_eq_true rfl)) 1)) ((f79 39 (of_decide_eq_true rfl)).trans (f54 39 (of_decide_eq_true rfl))) hI38
              have I107 : jI43 σ77 := jI43_fr ((congrFun (f79 43 (of_decide_eq_true rfl)) 8).trans (congrFun (f54 43 (of_decide_eq_true rfl)) 8)) hI43
              have I108 : jI47 σ77 := jI47_fr ((congrFun (f79 47 (of_decide_eq_true rfl)) 0).trans (congrFun (f54 47 (of_decide_eq_true rfl)) 0)) ((f79 48 (of_decide_eq_true rfl)).trans (f54 48 (of_decide_eq_true rfl))) ((f79 49 (of_decide_eq_true rfl)).trans (f54 49 (of_decide_eq_true rfl))) hI47
              have I109 : jI50 σ77 := jI50_fr ((f79 52 (of_decide_eq_true rfl)).trans (f54 52 (of_decide_eq_true rfl))) hI50
              have I110 : jI102 σ77 := jI102_fr (f80 6 (of_decide_eq_true rfl)) (f79 60 (of_decide_eq_true rfl)) (f79 61 (of_decide_eq_true rfl)) I74
              have I111 : jI103 σ77 := jI103_fr ((f80 9 (of_decide_eq_true rfl)).trans (congrFun (f54 55 (of_decide_eq_true rfl)) 9)) hI103
              have I112 : jI104 σ77 := jI104_fr ((f80 10 (of_decide_eq_true rfl)).trans (congrFun (f54 55 (of_decide_eq_true rfl)) 10)) ((f80 12 (of_decide_eq_true rfl)).trans (congrFun (f54 55 (of_decide_eq_true rfl)) 12)) ((f80 13 (of_decide_eq_true rfl)).trans (congrFun (f54 55 (of_decide_eq_true rfl)) 13)) ((f79 62 (of_decide_eq_true rfl)).trans (f54 62 (of_decide_eq_true rfl))) ((f79 67 (of_decide_eq_true rfl)).trans (f54 67 (of_decide_eq_true rfl))) hI104
              have I113 : jI105 σ77 := jI105_fr ((f80 15 (of_decide_eq_true rfl)).trans (congrFun (f54 55 (of_decide_eq_true rfl)) 15)) ((f79 65 (of_decide_eq_true rfl)).trans (f54 65 (of_decide_eq_true rfl))) hI105
              have I114 : jI106 σ77 := jI106_fr ((f80 32 (of_decide_eq_true rfl)).trans (congrFun (f54 55 (of_decide_eq_true rfl)) 32)) ((f79 70 (of_decide_eq_true rfl)).trans (f54 70 (of_decide_eq_true rfl))) ((f79 71 (of_decide_eq_true rfl)).trans (f54 71 (of_decide_eq_true rfl))) ((f79 72 (of_decide_eq_true rfl)).trans (f54 72 (of_decide_eq_true rfl))) hI106
              have I115 : jI107 σ77 := jI107_fr ((f80 12 (of_decide_eq_true rfl)).trans (congrFun (f54 55 (of_decide_eq_true rfl)) 12)) ((f80 47 (of_decide_eq_true rfl)).trans (congrFun (f54 55 (of_decide_eq_true rfl)) 47)) ((f79 80 (of_decide_eq_true rfl)).trans (f54 80 (of_decide_eq_true rfl))) hI107
              have I116 : jI109 σ77 := jI109_fr ((f80 50 (of_decide_eq_true rfl)).trans (congrFun (f54 55 (of_decide_eq_true rfl)) 50)) hI109
              have I117 : jI110 σ77 := jI110_fr ((f79 86 (of_decide_eq_true rfl)).trans (f54 86 (of_decide_eq_true rfl))) ((f79 87 (of_decide_eq_true rfl)).trans (f54 87 (of_decide_eq_true rfl))) hI110
              have I118 : jI111 σ77 := jI111_fr ((f79 79 (of_decide_eq_true rfl)).trans (f54 79 (of_decide_eq_true rfl))) hI111
              have I119 : jI119 σ77 := jI119_fr ((f79 68 (of_decide_eq_true rfl)).trans (f54 68 (of_decide_eq_true rfl))) hI119
              have p120 : jKept σ77 := jKept.fr ((f79 75 (of_decide_eq_true rfl)).trans (f54 75 (of_decide_eq_true rfl))) ((f79 76 (of_decide_eq_true rfl)).trans (f54 76 (of_decide_eq_true rfl))) ((f79 77 (of_decide_eq_true rfl)).trans (f54 77 (of_decide_eq_true rfl))) hs_jKept
              have p121 : jBook σ77 := jBook.fr ((f80 47 (of_decide_eq_true rfl)).trans (congrFun (f54 55 (of_decide_eq_true rfl)) 47)) ((f80 10 (of_decide_eq_true rfl)).trans (congrFun (f54 55 (of_decide_eq_true rfl)) 10)) ((f79 81 (of_decide_eq_true rfl)).trans (f54 81 (of_decide_eq_true rfl))) hs_jBook
              have z122 : (σ77 2 0).toInt = (σ 2 0).toInt := (congrArg Int32.toInt (show σ77 2 0 = (σ 2 0) from ((congrFun (f79 2 (of_decide_eq_true rfl)) 0).trans (f55 0 (of_decide_eq_true rfl)))))
              have z123 : (σ77 55 6).toInt = (σ 55 6).toInt := (congrArg Int32.toInt (show σ77 55 6 = (σ 55 6) from ((f80 6 (of_decide_eq_true rfl)).trans (congrFun (f54 55 (of_decide_eq_true rfl)) 6))))
              have z124 : (σ77 2 2).toInt = (σ52 2 2).toInt := (congrArg Int32.toInt (show σ77 2 2 = (σ52 2 2) from (congrFun (f79 2 (of_decide_eq_true rfl)) 2)))
              have z125 : (σ77 2 3).toInt = (σ52 2 3).toInt := (congrArg Int32.toInt (show σ77 2 3 = (σ52 2 3) from (congrFun (f79 2 (of_decide_eq_true rfl)) 3)))
              have z126 : (σ77 9 0).toInt = (σ 9 0).toInt := (congrArg Int32.toInt (show σ77 9 0 = (σ 9 0) from ((congrFun (f79 9 (of_decide_eq_true rfl)) 0).trans (congrFun (f54 9 (of_decide_eq_true rfl)) 0))))
              have z127 : (σ77 55 15).toInt = (σ 55 15).toInt := (congrArg Int32.toInt (show σ77 55 15 = (σ 55 15) from ((f80 15 (of_decide_eq_true rfl)).trans (congrFun (f54 55 (of_decide_eq_true rfl)) 15))))
              have z128 : (σ77 16 0).toInt = (σ 16 0).toInt := (congrArg Int32.toInt (show σ77 16 0 = (σ 16 0) from ((congrFun (f79 16 (of_decide_eq_true rfl)) 0).trans (congrFun (f54 16 (of_decide_eq_true rfl)) 0))))
              have z129 : (σ77 55 10).toInt = (σ 55 10).toInt := (congrArg Int32.toInt (show σ77 55 10 = (σ 55 10) from ((f80 10 (of_decide_eq_true rfl)).trans (congrFun (f54 55 (of_decide_eq_true rfl)) 10))))
              have z130 : (σ77 16 1).toInt = (σ 16 1).toInt := (congrArg Int32.toInt (show σ77 16 1 = (σ 16 1) from ((congrFun (f79 16 (of_decide_eq_true rfl)) 1).trans (congrFun (f54 16 (of_decide_eq_true rfl)) 1))))
              have z131 : (σ77 55 12).toInt = (σ 55 12).toInt := (congrArg Int32.toInt (show σ77 55 12 = (σ 55 12) from ((f80 12 (of_decide_eq_true rfl)).trans (congrFun (f54 55 (of_decide_eq_true rfl)) 12))))
              have z132 : (σ77 16 2).toInt = (σ 16 2).toInt := (congrArg Int32.toInt (show σ77 16 2 = (σ 16 2) from ((congrFun (f79 16 (of_decide_eq_true rfl)) 2).trans (congrFun (f54 16 (of_decide_eq_true rfl)) 2))))
              have z133 : (σ77 55 13).toInt = (σ 55 13).toInt := (congrArg Int32.toInt (show σ77 55 13 = (σ 55 13) from ((f80 13 (of_decide_eq_true rfl)).trans (congrFun (f54 55 (of_decide_eq_true rfl)) 13))))
              have z134 : (σ77 38 0).toInt = (σ 38 0).toInt := (congrArg Int32.toInt (show σ77 38 0 = (σ 38 0) from ((congrFun (f79 38 (of_decide_eq_true rfl)) 0).trans (congrFun (f54 38 (of_decide_eq_true rfl)) 0))))
              have z135 : (σ77 55 32).toInt = (σ 55 32).toInt := (congrArg Int32.toInt (show σ77 55 32 = (σ 55 32) from ((f80 32 (of_decide_eq_true rfl)).trans (congrFun (f54 55 (of_decide_eq_true rfl)) 32))))
              have z136 : (σ77 38 1).toInt = (σ 38 1).toInt := (congrArg Int32.toInt (show σ77 38 1 = (σ 38 1) from ((congrFun (f79 38 (of_decide_eq_true rfl)) 1).trans (congrFun (f54 38 (of_decide_eq_true rfl)) 1))))
              have z137 : (σ77 55 55).toInt = (σ 55 55).toInt := (congrArg Int32.toInt (show σ77 55 55 = (σ 55 55) from ((f80 55 (of_decide_eq_true rfl)).trans (congrFun (f54 55 (of_decide_eq_true rfl)) 55))))
              have z138 : (σ77 47 0).toInt = (σ 47 0).toInt := (congrArg Int32.toInt (show σ77 47 0 = (σ 47 0) from ((congrFun (f79 47 (of_decide_eq_true rfl)) 0).trans (congrFun (f54 47 (of_decide_eq_true rfl)) 0))))
              have z139 : (σ77 55 47).toInt = (σ 55 47).toInt := (congrArg Int32.toInt (show σ77 55 47 = (σ 55 47) from ((f80 47 (of_decide_eq_true rfl)).trans (congrFun (f54 55 (of_decide_eq_true rfl)) 47))))
              have z140 : (σ77 55 30).toInt = (σ 55 30).toInt := (congrArg Int32.toInt (show σ77 55 30 = (σ 55 30) from ((f80 30 (of_decide_eq_true rfl)).trans (congrFun (f54 55 (of_decide_eq_true rfl)) 30))))
              have z141 : (σ77 55 31).toInt = (σ 55 31).toInt := (congrArg Int32.toInt (show σ77 55 31 = (σ 55 31) from ((f80 31 (of_decide_eq_true rfl)).trans (congrFun (f54 55 (of_decide_eq_true rfl)) 31))))
              exact by exact ih x98 σ77 τ _ _ ls (by have h9 := tx98; omega) ⟨I99, I100, I101, I102, I103, I104, I105, I106, I107, I108, I109, I81, I110, I111, I112, I113, I114, I115, I116, I117, I118, I119, p120, p121, (by omega), (by omega), (by omega), (by omega), (by omega), (by omega), (by omega), (by omega), (by omega), (by omega), (by omega), (by omega), (show jNumP (σ77 3) (σ77 56) (σ77 6) (σ77 57) (σ77 7) (σ77 58) (σ77 8) (σ77 59) (σ77 55 6).toInt (σ77 55 4).toInt by rw [show σ77 3 = σ 3 from ((f79 3 (of_decide_eq_true rfl)).trans k71.1), show σ77 56 = σ 56 from (k95.1.trans (f54 56 (of_decide_eq_true rfl))), show σ77 6 = σ 6 from ((f79 6 (of_decide_eq_true rfl)).trans k71.2.1), show σ77 57 = σ 57 from (k95.2.1.trans (f54 57 (of_decide_eq_true rfl))), show σ77 7 = σ 7 from ((f79 7 (of_decide_eq_true rfl)).trans k71.2.2.1), show σ77 58 = σ 58 from (k95.2.2.1.trans (f54 58 (of_decide_eq_true rfl))), show σ77 8 = σ 8 from ((f79 8 (of_decide_eq_true rfl)).trans k71.2.2.2), show σ77 59 = σ 59 from (k95.2.2.2.trans (f54 59 (of_decide_eq_true rfl))), show (σ77 55 6).toInt = (σ 55 6).toInt from by omega, show (σ77 55 4).toInt = (σ 55 4).toInt from by omega]; exact hr0), (show jOvP (σ77 56) (σ77 57) (σ77 58) (σ77 59) (σ77 55 4).toInt by rw [show σ77 56 = σ 56 from (k95.1.trans (f54 56 (of_decide_eq_true rfl))), show σ77 57 = σ 57 from (k95.2.1.trans (f54 57 (of_decide_eq_true rfl))), show σ77 58 = σ 58 from (k95.2.2.1.trans (f54 58 (of_decide_eq_true rfl))), show σ77 59 = σ 59 from (k95.2.2.2.trans (f54 59 (of_decide_eq_true rfl))), show (σ77 55 4).toInt = (σ 55 4).toInt from by omega]; exact hr1), (show jTp (σ77 10) (σ77 63) (σ77 55 15).toInt by rw [show σ77 10 = σ 10 from ((f79 10 (of_decide_eq_true rfl)).trans (f54 10 (of_decide_eq_true rfl))), show σ77 63 = σ 63 from ((f79 63 (of_decide_eq_true rfl)).trans (f54 63 (of_decide_eq_true rfl)))]; exact hr2.le (by omega)), (show jSo (σ77 17) (σ77 62) (σ77 16 0).toInt by rw [show σ77 17 = σ 17 from ((f79 17 (of_decide_eq_true rfl)).trans (f54 17 (of_decide_eq_true rfl))), show σ77 62 = σ 62 from ((f79 62 (of_decide_eq_true rfl)).trans (f54 62 (of_decide_eq_true rfl))), show (σ77 16 0).toInt = (σ 16 0).toInt from by omega]; exact hr3), (show jShP (σ77 51) (σ77 52) (σ77 53) (σ77 86) (σ77 87) (σ77 55 32).toInt by rw [show σ77 51 = σ 51 from ((f79 51 (of_decide_eq_true rfl)).trans (f54 51 (of_decide_eq_true rfl))), show σ77 52 = σ 52 from ((f79 52 (of_decide_eq_true rfl)).trans (f54 52 (of_decide_eq_true rfl))), show σ77 53 = σ 53 from ((f79 53 (of_decide_eq_true rfl)).trans (f54 53 (of_decide_eq_true rfl))), show σ77 86 = σ 86 from ((f79 86 (of_decide_eq_true rfl)).trans (f54 86 (of_decide_eq_true rfl))), show σ77 87 = σ 87 from ((f79 87 (of_decide_eq_true rfl)).trans (f54 87 (of_decide_eq_true rfl)))]; exact (hr4.up (by omega) (by omega))), (show jEl (σ77 51) (σ77 52) (τ 54) (τ 88) by rw [show σ77 51 = σ 51 from ((f79 51 (of_decide_eq_true rfl)).trans (f54 51 (of_decide_eq_true rfl))), show σ77 52 = σ 52 from ((f79 52 (of_decide_eq_true rfl)).trans (f54 52 (of_decide_eq_true rfl)))]; exact hr5), (show jByP (σ77 51) (σ77 52) (τ 54) by rw [show σ77 51 = σ 51 from ((f79 51 (of_decide_eq_true rfl)).trans (f54 51 (of_decide_eq_true rfl))), show σ77 52 = σ 52 from ((f79 52 (of_decide_eq_true rfl)).trans (f54 52 (of_decide_eq_true rfl)))]; exact hr6), (show jBk (σ77 48) (σ77 80) (σ77 49) (σ77 81) (σ77 55 47).toInt by rw [show σ77 48 = σ 48 from ((f79 48 (of_decide_eq_true rfl)).trans (f54 48 (of_decide_eq_true rfl))), show σ77 49 = σ 49 from ((f79 49 (of_decide_eq_true rfl)).trans (f54 49 (of_decide_eq_true rfl))), show σ77 80 = σ 80 from ((f79 80 (of_decide_eq_true rfl)).trans (f54 80 (of_decide_eq_true rfl))), show σ77 81 = σ 81 from ((f79 81 (of_decide_eq_true rfl)).trans (f54 81 (of_decide_eq_true rfl))), show (σ77 55 47).toInt = (σ 55 47).toInt from by omega]; exact hr7), (show jKd (σ77 39) (σ77 70) (σ77 55 32).toInt by rw [show σ77 39 = σ 39 from ((f79 39 (of_decide_eq_true rfl)).trans (f54 39 (of_decide_eq_true rfl))), show σ77 70 = σ 70 from ((f79 70 (of_decide_eq_true rfl)).trans (f54 70 (of_decide_eq_true rfl))), show (σ77 55 32).toInt = (σ 55 32).toInt from by omega]; exact hr8), (show jTt (σ77 42) (σ77 85) (σ77 55 55).toInt by rw [show σ77 42 = σ 42 from ((f79 42 (of_decide_eq_true rfl)).trans (f54 42 (of_decide_eq_true rfl))), show σ77 85 = σ 85 from ((f79 85 (of_decide_eq_true rfl)).trans (f54 85 (of_decide_eq_true rfl))), show (σ77 55 55).toInt = (σ 55 55).toInt from by omega]; exact hr9)⟩ hP hS (lv_sub hl [0, 1, 2, 3] rfl)
          · obtain ⟨q144, k143⟩ := h91
            have z145 : (σ52 55 6).toInt = (σ 55 6).toInt := (congrArg Int32.toInt (show σ52 55 6 = (σ 55 6) from (congrFun (f54 55 (of_decide_eq_true rfl)) 6)))
            rw [show (σ52 55 6).toInt = (σ 2 0).toInt from by omega] at k143
            exact absurd k143.1 k70
     · obtain ⟨q147, k146⟩ := h67
       refine lv_pop hx hb dL_law_258 rfl ?_
       refine lv_aload_n hx hb dL_law_259 rfl (lv_at hl 1 rfl) ?_
       refine lv_aload_n hx hb dL_law_260 rfl (lv_at hl 3 rfl) ?_
       refine lv_iload_n hx hb dL_law_261 rfl (lv_at hl 0 rfl) ?_
       refine lv_iconst (v := 1) hx hb dL_law_262 (of_decide_eq_true rfl) ?_
       refine lv_iadd hx hb dL_law_263 ?_
       refine jtopr ex46.symm ?_
       exact by
        refine va_sld hx hb hX hbl hbA hS (jin tx46 (by omega) (by omega)) dL_law_264 ?_
        refine lv_aload_n hx hb dL_law_265 rfl (lv_at hl 3 rfl) ?_
        refine lv_iload_n hx hb dL_law_266 rfl (lv_at hl 0 rfl) ?_
        refine lv_iconst (v := 2) hx hb dL_law_267 (of_decide_eq_true rfl) ?_
        refine lv_iadd hx hb dL_law_268 ?_
        refine jtopr ex48.symm ?_
        refine va_sld hx hb hX hbl hbA hS (jin tx48 (by omega) (by omega)) dL_law_269 ?_
        refine lv_aload_n hx hb dL_law_270 rfl (lv_at hl 3 rfl) ?_
        refine lv_iload_n hx hb dL_law_271 rfl (lv_at hl 0 rfl) ?_
        exact by
         refine lv_iconst (v := 3) hx hb dL_law_272 (of_decide_eq_true rfl) ?_
         refine lv_iadd hx hb dL_law_273 ?_
         refine jtopr ex50.symm ?_
         refine va_sld hx hb hX hbl hbA hS (jin tx50 (by omega) (by omega)) dL_law_274 ?_
         have I148 : jI101 σ52 := jI101_fr (congrFun (f54 55 (of_decide_eq_true rfl)) 4) (congrFun (f54 55 (of_decide_eq_true rfl)) 5) (f54 56 (of_decide_eq_true rfl)) (f54 57 (of_decide_eq_true rfl)) (f54 58 (of_decide_eq_true rfl)) (f54 59 (of_decide_eq_true rfl)) hI101
         have I149 : jI102 σ52 := jI102_fr (congrFun (f54 55 (of_decide_eq_true rfl)) 6) (f54 60 (of_decide_eq_true rfl)) (f54 61 (of_decide_eq_true rfl)) hI102
         have z150 : (σ52 55 5).toInt = (σ 55 5).toInt := (congrArg Int32.toInt (show σ52 55 5 = (σ 55 5) from (congrFun (f54 55 (of_decide_eq_true rfl)) 5)))
         have z151 : (σ52 55 4).toInt = (σ 55 4).toInt := (congrArg Int32.toInt (show σ52 55 4 = (σ 55 4) from (congrFun (f54 55 (of_decide_eq_true rfl)) 4)))
         refine jcallV (As := [.int (xs x46.toNatClampNeg), .int (xs x48.toNatClampNeg), .int (xs x50.toNatClampNeg)]) (rest := []) ⟨hx, hb, hml, hown, hts⟩ hK hP hA hS hZ (c_X12_edge l D cI cL ad zz hJ σ52 τ (xs x46.toNatClampNeg) ((xs x46.toNatClampNeg).toInt) rfl (xs x48.toNatClampNeg) ((xs x48.toNatClampNeg).toInt) rfl (xs x50.toNatClampNeg) ((xs x50.toNatClampNeg).toInt) rfl I148 I149) cw_RL_21 (jc_55 cI cL ad σ52 τ) rfl ⟨Nat.le_of_ble_eq_true rfl, Nat.le_of_ble_eq_true rfl⟩ rfl rfl rfl hl.1 rfl (Nat.le_of_ble_eq_true rfl) dL_law_275 ⟨Nat.le_of_ble_eq_true rfl, Nat.le_of_ble_eq_true rfl⟩ (fun r153 σ152 τ152 H locs h152 hP hS => ?_)
         exact by
          obtain ⟨rfl, f154, f155, I156, h152⟩ := h152
          obtain ⟨i158, i159, i160, w161, w162, w163, w164⟩ : (0 ≤ (σ152 55 5).toInt) ∧ ((σ152 55 5).toInt ≤ (σ152 55 4).toInt) ∧ ((σ152 55 4).toInt ≤ 40) ∧ (∀ k : Nat, k < 68 → (-200) ≤ (σ152 56 k).toInt ∧ (σ152 56 k).toInt ≤ 500) ∧ (∀ k : Nat, k < 40 → 0 ≤ (σ152 57 k).toInt ∧ (σ152 57 k).toInt ≤ 67) ∧ (∀ k : Nat, k < 40 → (-200) ≤ (σ152 58 k).toInt ∧ (σ152 58 k).toInt ≤ 500) ∧ (∀ k : Nat, k < 40 → (-200) ≤ (σ152 59 k).toInt ∧ (σ152 59 k).toInt ≤ 500) := id I156
          rcases h152 with h165 | h166
          · obtain ⟨q171, k167, k168, k169, k170⟩ := h165
            have q171 := q171.symm
            subst q171
            have z172 : (σ52 55 6).toInt = (σ 55 6).toInt := (congrArg Int32.toInt (show σ52 55 6 = (σ 55 6) from (congrFun (f54 55 (of_decide_eq_true rfl)) 6)))
            rw [show (σ52 55 6).toInt = (σ 2 0).toInt from by omega] at k169
            exact absurd k146.1 k169
          · obtain ⟨q174, k173⟩ := h166
            have z175 : (σ52 55 6).toInt = (σ 55 6).toInt := (congrArg Int32.toInt (show σ52 55 6 = (σ 55 6) from (congrFun (f54 55 (of_decide_eq_true rfl)) 6)))
            rw [show (σ52 55 6).toInt = (σ 2 0).toInt from by omega] at k173
            obtain ⟨e176, q177, l178, c179⟩ := k146
            obtain ⟨-, q180, l181, c182⟩ := k173
            exact by
             have p183 := jEdge_pl (by omega) e176 l178 l181
             rw [show σ52 56 = σ 56 from (f54 56 (of_decide_eq_true rfl)), show σ52 57 = σ 57 from (f54 57 (of_decide_eq_true rfl)), show σ52 58 = σ 58 from (f54 58 (of_decide_eq_true rfl)), show σ52 59 = σ 59 from (f54 59 (of_decide_eq_true rfl)), show (σ52 55 4).toInt = (σ 55 4).toInt from by omega] at c182
             have r187 := hr0.res p183.1 (by have h9 := p183.2.1; omega) c179 c182 p183.2.2
             have k186 := hr0.chg p183.1 (by have h9 := p183.2.1; omega) c179 c182 p183.2.2 (by omega) (by omega) (by omega)
             have k184 := k186.2.1
             have k185 := k186.2.2
             have o188 : 32 ≤ q180 → q180 ≤ 35 → 0 ≤ (xs x50.toNatClampNeg).toInt ∧ (xs x50.toNatClampNeg).toInt ≤ 8 := fun x y => by
               have e := e176
               have l := l181
               unfold jEok at e; unfold jEpl at l; omega
             exact by
              refine lv_pop hx hb dL_law_278 rfl ?_
              refine lv_goto (tgt := 1357) hx hb dL_law_279 (of_decide_eq_true rfl) ?_
              obtain ⟨x189, ex189⟩ : ∃ y : Int32, y = x0 + 6 := ⟨_, rfl⟩
              have tx189 : x189.toInt = x0.toInt + 6 := (jadd ex189 rfl jz_6 (by omega) (by omega)).trans (by omega)
              refine lv_iinc (v := x189) (lv' := [(3, .int x189), (2, .ref (ad 55)), (1, .ref (ad 0)), (0, .ref b)]) hx hb dL_law_1357 hl (k := 0) rfl (by rw [ex189]; rfl) (of_decide_eq_true rfl) rfl (fun ls hl => ?_)
              refine lv_goto (tgt := 18) hx hb dL_law_1360 (of_decide_eq_true rfl) ?_
              have I190 : jI2 σ152 := jI2_fr (congrFun (f154 2 (of_decide_eq_true rfl)) 0) (congrFun (f154 2 (of_decide_eq_true rfl)) 1) (congrFun (f154 2 (of_decide_eq_true rfl)) 2) (congrFun (f154 2 (of_decide_eq_true rfl)) 3) (f154 6 (of_decide_eq_true rfl)) I56
              have I191 : jI9 σ152 := jI9_fr ((congrFun (f154 9 (of_decide_eq_true rfl)) 0).trans (congrFun (f54 9 (of_decide_eq_true rfl)) 0)) ((f154 10 (of_decide_eq_true rfl)).trans (f54 10 (of_decide_eq_true rfl))) ((f154 11 (of_decide_eq_true rfl)).trans (f54 11 (of_decide_eq_true rfl))) hI9
              have I192 : jI12 σ152 := jI12_fr ((congrFun (f154 12 (of_decide_eq_true rfl)) 0).trans (congrFun (f54 12 (of_decide_eq_true rfl)) 0)) ((f154 13 (of_decide_eq_true rfl)).trans (f54 13 (of_decide_eq_true rfl))) hI12
              exact by
               have I193 : jI16 σ152 := jI16_fr ((congrFun (f154 16 (of_decide_eq_true rfl)) 0).trans (congrFun (f54 16 (of_decide_eq_true rfl)) 0)) ((congrFun (f154 16 (of_decide_eq_true rfl)) 1).trans (congrFun (f54 16 (of_decide_eq_true rfl)) 1)) ((congrFun (f154 16 (of_decide_eq_true rfl)) 2).trans (congrFun (f54 16 (of_decide_eq_true rfl)) 2)) ((f154 17 (of_decide_eq_true rfl)).trans (f54 17 (of_decide_eq_true rfl))) hI16
               have I194 : jI18 σ152 := jI18_fr ((congrFun (f154 18 (of_decide_eq_true rfl)) 0).trans (congrFun (f54 18 (of_decide_eq_true rfl)) 0)) ((f154 19 (of_decide_eq_true rfl)).trans (f54 19 (of_decide_eq_true rfl))) hI18
               have I195 : jI22 σ152 := jI22_fr ((congrFun (f154 22 (of_decide_eq_true rfl)) 0).trans (congrFun (f54 22 (of_decide_eq_true rfl)) 0)) ((f154 23 (of_decide_eq_true rfl)).trans (f54 23 (of_decide_eq_true rfl))) hI22
               have I196 : jI31 σ152 := jI31_fr ((congrFun (f154 31 (of_decide_eq_true rfl)) 8).trans (congrFun (f54 31 (of_decide_eq_true rfl)) 8)) ((f154 33 (of_decide_eq_true rfl)).trans (f54 33 (of_decide_eq_true rfl))) ((f154 36 (of_decide_eq_true rfl)).trans (f54 36 (of_decide_eq_true rfl))) hI31
               have I197 : jI38 σ152 := jI38_fr ((congrFun (f154 38 (of_decide_eq_true rfl)) 0).trans (congrFun (f54 38 (of_decide_eq_true rfl)) 0)) ((congrFun (f154 38 (of_decide_eq_true rfl)) 1).trans (congrFun (f54 38 (of_decide_eq_true rfl)) 1)) ((f154 39 (of_decide_eq_true rfl)).trans (f54 39 (of_decide_eq_true rfl))) hI38
               have I198 : jI43 σ152 := jI43_fr ((congrFun (f154 43 (of_decide_eq_true rfl)) 8).trans (congrFun (f54 43 (of_decide_eq_true rfl)) 8)) hI43
               have I199 : jI47 σ152 := jI47_fr ((congrFun (f154 47 (of_decide_eq_true rfl)) 0).trans (congrFun (f54 47 (of_decide_eq_true rfl)) 0)) ((f154 48 (of_decide_eq_true rfl)).trans (f54 48 (of_decide_eq_true rfl))) ((f154 49 (of_decide_eq_true rfl)).trans (f54 49 (of_decide_eq_true rfl))) hI47
               have I200 : jI50 σ152 := jI50_fr ((f154 52 (of_decide_eq_true rfl)).trans (f54 52 (of_decide_eq_true rfl))) hI50
               have I201 : jI102 σ152 := jI102_fr (f155 6 (of_decide_eq_true rfl)) (f154 60 (of_decide_eq_true rfl)) (f154 61 (of_decide_eq_true rfl)) I149
               have I202 : jI103 σ152 := jI103_fr ((f155 9 (of_decide_eq_true rfl)).trans (congrFun (f54 55 (of_decide_eq_true rfl)) 9)) hI103
               have I203 : jI104 σ152 := jI104_fr ((f155 10 (of_decide_eq_true rfl)).trans (congrFun (f54 55 (of_decide_eq_true rfl)) 10)) ((f155 12 (of_decide_eq_true rfl)).trans (congrFun (f54 55 (of_decide_eq_true rfl)) 12)) ((f155 13 (of_decide_eq_true rfl)).trans (congrFun (f54 55 (of_decide_eq_true rfl)) 13)) ((f154 62 (of_decide_eq_true rfl)).trans (f54 62 (of_decide_eq_true rfl))) ((f154 67 (of_decide_eq_true rfl)).trans (f54 67 (of_decide_eq_true rfl))) hI104
               have I204 : jI105 σ152 := jI105_fr ((f155 15 (of_decide_eq_true rfl)).trans (congrFun (f54 55 (of_decide_eq_true rfl)) 15)) ((f154 65 (of_decide_eq_true rfl)).trans (f54 65 (of_decide_eq_true rfl))) hI105
               have I205 : jI106 σ152 := jI106_fr ((f155 32 (of_decide_eq_true rfl)).trans (congrFun (f54 55 (of_decide_eq_true rfl)) 32)) ((f154 70 (of_decide_eq_true rfl)).trans (f54 70 (of_decide_eq_true rfl))) ((f154 71 (of_decide_eq_true rfl)).trans (f54 71 (of_decide_eq_true rfl))) ((f154 72 (of_decide_eq_true rfl)).trans (f54 72 (of_decide_eq_true rfl))) hI106
               have I206 : jI107 σ152 := jI107_fr ((f155 12 (of_decide_eq_true rfl)).trans (congrFun (f54 55 (of_decide_eq_true rfl)) 12)) ((f155 47 (of_decide_eq_true rfl)).trans (congrFun (f54 55 (of_decide_eq_true rfl)) 47)) ((f154 80 (of_decide_eq_true rfl)).trans (f54 80 (of_decide_eq_true rfl))) hI107
               have I207 : jI109 σ152 := jI109_fr ((f155 50 (of_decide_eq_true rfl)).trans (congrFun (f54 55 (of_decide_eq_true rfl)) 50)) hI109
               have I208 : jI110 σ152 := jI110_fr ((f154 86 (of_decide_eq_true rfl)).trans (f54 86 (of_decide_eq_true rfl))) ((f154 87 (of_decide_eq_true rfl)).trans (f54 87 (of_decide_eq_true rfl))) hI110
               have I209 : jI111 σ152 := jI111_fr ((f154 79 (of_decide_eq_true rfl)).trans (f54 79 (of_decide_eq_true rfl))) hI111
               have I210 : jI119 σ152 := jI119_fr ((f154 68 (of_decide_eq_true rfl)).trans (f54 68 (of_decide_eq_true rfl))) hI119
               have p211 : jKept σ152 := jKept.fr ((f154 75 (of_decide_eq_true rfl)).trans (f54 75 (of_decide_eq_true rfl))) ((f154 76 (of_decide_eq_true rfl)).trans (f54 76 (of_decide_eq_true rfl))) ((f154 77 (of_decide_eq_true rfl)).trans (f54 77 (of_decide_eq_true rfl))) hs_jKept
               have p212 : jBook σ152 := jBook.fr ((f155 47 (of_decide_eq_true rfl)).trans (congrFun (f54 55 (of_decide_eq_true rfl)) 47)) ((f155 10 (of_decide_eq_true rfl)).trans (congrFun (f54 55 (of_decide_eq_true rfl)) 10)) ((f154 81 (of_decide_eq_true rfl)).trans (f54 81 (of_decide_eq_true rfl))) hs_jBook
               have z213 : (σ152 2 0).toInt = (σ 2 0).toInt := (congrArg Int32.toInt (show σ152 2 0 = (σ 2 0) from ((congrFun (f154 2 (of_decide_eq_true rfl)) 0).trans (f55 0 (of_decide_eq_true rfl)))))
               have z214 : (σ152 55 6).toInt = (σ 55 6).toInt := (congrArg Int32.toInt (show σ152 55 6 = (σ 55 6) from ((f155 6 (of_decide_eq_true rfl)).trans (congrFun (f54 55 (of_decide_eq_true rfl)) 6))))
               have z215 : (σ152 2 2).toInt = (σ52 2 2).toInt := (congrArg Int32.toInt (show σ152 2 2 = (σ52 2 2) from (congrFun (f154 2 (of_decide_eq_true rfl)) 2)))
               have z216 : (σ152 2 3).toInt = (σ52 2 3).toInt := (congrArg Int32.toInt (show σ152 2 3 = (σ52 2 3) from (congrFun (f154 2 (of_decide_eq_true rfl)) 3)))
               have z217 : (σ152 9 0).toInt = (σ 9 0).toInt := (congrArg Int32.toInt (show σ152 9 0 = (σ 9 0) from ((congrFun (f154 9 (of_decide_eq_true rfl)) 0).trans (congrFun (f54 9 (of_decide_eq_true rfl)) 0))))
               have z218 : (σ152 55 15).toInt = (σ 55 15).toInt := (congrArg Int32.toInt (show σ152 55 15 = (σ 55 15) from ((f155 15 (of_decide_eq_true rfl)).trans (congrFun (f54 55 (of_decide_eq_true rfl)) 15))))
               have z219 : (σ152 16 0).toInt = (σ 16 0).toInt := (congrArg Int32.toInt (show σ152 16 0 = (σ 16 0) from ((congrFun (f154 16 (of_decide_eq_true rfl)) 0).trans (congrFun (f54 16 (of_decide_eq_true rfl)) 0))))
               have z220 : (σ152 55 10).toInt = (σ 55 10).toInt := (congrArg Int32.toInt (show σ152 55 10 = (σ 55 10) from ((f155 10 (of_decide_eq_true rfl)).trans (congrFun (f54 55 (of_decide_eq_true rfl)) 10))))
               have z221 : (σ152 16 1).toInt = (σ 16 1).toInt := (congrArg Int32.toInt (show σ152 16 1 = (σ 16 1) from ((congrFun (f154 16 (of_decide_eq_true rfl)) 1).trans (congrFun (f54 16 (of_decide_eq_true rfl)) 1))))
               have z222 : (σ152 55 12).toInt = (σ 55 12).toInt := (congrArg Int32.toInt (show σ152 55 12 = (σ 55 12) from ((f155 12 (of_decide_eq_true rfl)).trans (congrFun (f54 55 (of_decide_eq_true rfl)) 12))))
               have z223 : (σ152 16 2).toInt = (σ 16 2).toInt := (congrArg Int32.toInt (show σ152 16 2 = (σ 16 2) from ((congrFun (f154 16 (of_decide_eq_true rfl)) 2).trans (congrFun (f54 16 (of_decide_eq_true rfl)) 2))))
               have z224 : (σ152 55 13).toInt = (σ 55 13).toInt := (congrArg Int32.toInt (show σ152 55 13 = (σ 55 13) from ((f155 13 (of_decide_eq_true rfl)).trans (congrFun (f54 55 (of_decide_eq_true rfl)) 13))))
               have z225 : (σ152 38 0).toInt = (σ 38 0).toInt := (congrArg Int32.toInt (show σ152 38 0 = (σ 38 0) from ((congrFun (f154 38 (of_decide_eq_true rfl)) 0).trans (congrFun (f54 38 (of_decide_eq_true rfl)) 0))))
               have z226 : (σ152 55 32).toInt = (σ 55 32).toInt := (congrArg Int32.toInt (show σ152 55 32 = (σ 55 32) from ((f155 32 (of_decide_eq_true rfl)).trans (congrFun (f54 55 (of_decide_eq_true rfl)) 32))))
               have z227 : (σ152 38 1).toInt = (σ 38 1).toInt := (congrArg Int32.toInt (show σ152 38 1 = (σ 38 1) from ((congrFun (f154 38 (of_decide_eq_true rfl)) 1).trans (congrFun (f54 38 (of_decide_eq_true rfl)) 1))))
               have z228 : (σ152 55 55).toInt = (σ 55 55).toInt := (congrArg Int32.toInt (show σ152 55 55 = (σ 55 55) from ((f155 55 (of_decide_eq_true rfl)).trans (congrFun (f54 55 (of_decide_eq_true rfl)) 55))))
               have z229 : (σ152 47 0).toInt = (σ 47 0).toInt := (congrArg Int32.toInt (show σ152 47 0 = (σ 47 0) from ((congrFun (f154 47 (of_decide_eq_true rfl)) 0).trans (congrFun (f54 47 (of_decide_eq_true rfl)) 0))))
               have z230 : (σ152 55 47).toInt = (σ 55 47).toInt := (congrArg Int32.toInt (show σ152 55 47 = (σ 55 47) from ((f155 47 (of_decide_eq_true rfl)).trans (congrFun (f54 55 (of_decide_eq_true rfl)) 47))))
               have z231 : (σ152 55 30).toInt = (σ 55 30).toInt := (congrArg Int32.toInt (show σ152 55 30 = (σ 55 30) from ((f155 30 (of_decide_eq_true rfl)).trans (congrFun (f54 55 (of_decide_eq_true rfl)) 30))))
               have z232 : (σ152 55 31).toInt = (σ 55 31).toInt := (congrArg Int32.toInt (show σ152 55 31 = (σ 55 31) from ((f155 31 (of_decide_eq_true rfl)).trans (congrFun (f54 55 (of_decide_eq_true rfl)) 31))))
               exact by exact ih x189 σ152 τ _ _ ls (by have h9 := tx189; omega) ⟨I190, I191, I192, I193, I194, I195, I196, I197, I198, I199, I200, I156, I201, I202, I203, I204, I205, I206, I207, I208, I209, I210, p211, p212, (by omega), (by omega), (by omega), (by omega), (by omega), (by omega), (by omega), (by omega), (by omega), (by omega), (by omega), (by omega), (show jNumP (σ152 3) (σ152 56) (σ152 6) (σ152 57) (σ152 7) (σ152 58) (σ152 8) (σ152 59) (σ152 55 6).toInt (σ152 55 4).toInt by rw [show σ152 3 = σ52 3 from (f154 3 (of_decide_eq_true rfl)), show σ152 6 = σ52 6 from (f154 6 (of_decide_eq_true rfl)), show σ152 7 = σ52 7 from (f154 7 (of_decide_eq_true rfl)), show σ152 8 = σ52 8 from (f154 8 (of_decide_eq_true rfl)), show (σ152 55 6).toInt = (σ 55 6).toInt from by omega]; exact k186.1), (hr1.chg c182 (by have h8 := p183.1; have h9 := p183.2.2; omega) (by omega) o188), (show jTp (σ152 10) (σ152 63) (σ152 55 15).toInt by rw [show σ152 10 = σ 10 from ((f154 10 (of_decide_eq_true rfl)).trans (f54 10 (of_decide_eq_true rfl))), show σ152 63 = σ 63 from ((f154 63 (of_decide_eq_true rfl)).trans (f54 63 (of_decide_eq_true rfl)))]; exact hr2.le (by omega)), (show jSo (σ152 17) (σ152 62) (σ152 16 0).toInt by rw [show σ152 17 = σ 17 from ((f154 17 (of_decide_eq_true rfl)).trans (f54 17 (of_decide_eq_true rfl))), show σ152 62 = σ 62 from ((f154 62 (of_decide_eq_true rfl)).trans (f54 62 (of_decide_eq_true rfl))), show (σ152 16 0).toInt = (σ 16 0).toInt from by omega]; exact hr3), (show jShP (σ152 51) (σ152 52) (σ152 53) (σ152 86) (σ152 87) (σ152 55 32).toInt by rw [show σ152 51 = σ 51 from ((f154 51 (of_decide_eq_true rfl)).trans (f54 51 (of_decide_eq_true rfl))), show σ152 52 = σ 52 from ((f154 52 (of_decide_eq_true rfl)).trans (f54 52 (of_decide_eq_true rfl))), show σ152 53 = σ 53 from ((f154 53 (of_decide_eq_true rfl)).trans (f54 53 (of_decide_eq_true rfl))), show σ152 86 = σ 86 from ((f154 86 (of_decide_eq_true rfl)).trans (f54 86 (of_decide_eq_true rfl))), show σ152 87 = σ 87 from ((f154 87 (of_decide_eq_true rfl)).trans (f54 87 (of_decide_eq_true rfl)))]; exact (hr4.up (by omega) (by omega))), (show jEl (σ152 51) (σ152 52) (τ 54) (τ 88) by rw [show σ152 51 = σ 51 from ((f154 51 (of_decide_eq_true rfl)).trans (f54 51 (of_decide_eq_true rfl))), show σ152 52 = σ 52 from ((f154 52 (of_decide_eq_true rfl)).trans (f54 52 (of_decide_eq_true rfl)))]; exact hr5), (show jByP (σ152 51) (σ152 52) (τ 54) by rw [show σ152 51 = σ 51 from ((f154 51 (of_decide_eq_true rfl)).trans (f54 51 (of_decide_eq_true rfl))), show σ152 52 = σ 52 from ((f154 52 (of_decide_eq_true rfl)).trans (f54 52 (of_decide_eq_true rfl)))]; exact hr6), (show jBk (σ152 48) (σ152 80) (σ152 49) (σ152 81) (σ152 55 47).toInt by rw [show σ152 48 = σ 48 from ((f154 48 (of_decide_eq_true rfl)).trans (f54 48 (of_decide_eq_true rfl))), show σ152 49 = σ 49 from ((f154 49 (of_decide_eq_true rfl)).trans (f54 49 (of_decide_eq_true rfl))), show σ152 80 = σ 80 from ((f154 80 (of_decide_eq_true rfl)).trans (f54 80 (of_decide_eq_true rfl))), show σ152 81 = σ 81 from ((f154 81 (of_decide_eq_true rfl)).trans (f54 81 (of_decide_eq_true rfl))), show (σ152 55 47).toInt = (σ 55 47).toInt from by omega]; exact hr7), (show jKd (σ152 39) (σ152 70) (σ152 55 32).toInt by rw [show σ152 39 = σ 39 from ((f154 39 (of_decide_eq_true rfl)).trans (f54 39 (of_decide_eq_true rfl))), show σ152 70 = σ 70 from ((f154 70 (of_decide_eq_true rfl)).trans (f54 70 (of_decide_eq_true rfl))), show (σ152 55 32).toInt = (σ 55 32).toInt from by omega]; exact hr8), (show jTt (σ152 42) (σ152 85) (σ152 55 55).toInt by rw [show σ152 42 = σ 42 from ((f154 42 (of_decide_eq_true rfl)).trans (f54 42 (of_decide_eq_true rfl))), show σ152 85 = σ 85 from ((f154 85 (of_decide_eq_true rfl)).trans (f54 85 (of_decide_eq_true rfl))), show (σ152 55 55).toInt = (σ 55 55).toInt from by omega]; exact hr9)⟩ hP hS (lv_sub hl [0, 1, 2, 3] rfl)
set_option maxHeartbeats 4000000 in
set_option maxRecDepth 100000 in
theorem law_case_2 {p : Program} {e : Env} {s : State} {m : MethodId} {below : List Frame} {meth : Method} {c : Code} (l : Launch) {b L : Nat} {xs : Nat → Int32} {D : va_G} {cI cL : ClassId} {ad zz : Nat → Nat} (C0 : lw_At p s m meth c b L xs) (hJ : jD ad) (hA : ∀ q, jA ad q → s.heap.size ≤ q) (hK : jK D cI cL s) (hZ : jZ zz (fun q : Nat => s.heap.size ≤ q) s s.heap) {x0 : Int32} (hx0 : 0 ≤ x0.toInt) (hxL : x0.toInt + 6 ≤ (L : Int)) (hL : L ≤ 384) {σ : Nat → Nat → Int32} {τ : Nat → Nat → Int64} {H : Heap} {locs : List Loc} (hS : va_S (fun q : Nat => s.heap.size ≤ q) s.heap H locs) {ls : Array Slot} (hAll : jAll σ τ) (hP : jH D cI cL ad σ τ H) (hl : lv_has ls 4 [(3, .int x0), (2, .ref (ad 55)), (1, .ref (ad 0)), (0, .ref b)]) (ih : ∀ (x1 : Int32) (σ : Nat → Nat → Int32) (τ : Nat → Nat → Int64) (H : Heap) (locs : List Loc) (ls : Array Slot), x1.toInt = x0.toInt + 6 → jAll σ τ → jH D cI cL ad σ τ H → va_S (fun q : Nat => s.heap.size ≤ q) s.heap H locs → lv_has ls 4 [(3, .int x1), (2, .ref (ad 55)), (1, .ref (ad 0)), (0, .ref b)] → W p l e room_1 s m #[Value.ref b] below meth c H locs 90 348600 (lw_Z below #[Value.ref b] s) (F0 m 18 ls [])) : W p l e room_1 s m #[Value.ref b] below meth c H locs 90 348600 (lw_Z below #[Value.ref b] s) (F0 m 282 ls []) := by
  obtain ⟨hx, hb, hr, hml, hown, hts0, hX, hbl, hlocks, hgv⟩ := C0
  have hts : ∀ w ∈ wsL_law, w.before #[Value.ref b] s = true := fun w h => hts0 w (wsL_law_in w h)
  have hbA : ¬ (fun q : Nat => s.heap.size ≤ q) b := Nat.not_le.mpr hbl
  have hown : s.vm.findClass RL = some m.cls := hown
  obtain ⟨hI2, hI9, hI12, hI16, hI18, hI22, hI31, hI38, hI43, hI47, hI50, hI101, hI102, hI103, hI104, hI105, hI106, hI107, hI109, hI110, hI111, hI119, hs_jKept, hs_jBook, ht0, ht1, ht2, ht3, ht4, ht5, ht6, ht7, ht8, ht9, ht10, ht11, hr0, hr1, hr2, hr3, hr4, hr5, hr6, hr7, hr8, hr9⟩ := hAll
  have hL9 : (L : Int) ≤ 384 := by omega
  obtain ⟨i1, i2, i3, i4, i5, w6⟩ : (0 ≤ (σ 2 0).toInt ∧ (σ 2 0).toInt ≤ 4) ∧ (0 ≤ (σ 2 1).toInt ∧ (σ 2 1).toInt ≤ 3) ∧ (0 ≤ (σ 2 2).toInt) ∧ (0 ≤ (σ 2 3).toInt) ∧ ((σ 2 2).toInt + (σ 2 3).toInt ≤ 40) ∧ (∀ k : Nat, k < 40 → 0 ≤ (σ 6 k).toInt ∧ (σ 6 k).toInt ≤ 67) := id hI2
  obtain ⟨i7, w8, w9⟩ : (0 ≤ (σ 9 0).toInt ∧ (σ 9 0).toInt ≤ 80) ∧ (∀ k : Nat, k < 80 → 0 ≤ (σ 10 k).toInt ∧ (σ 10 k).toInt ≤ 255) ∧ (∀ k : Nat, k < 8 → 0 ≤ (σ 11 k).toInt ∧ (σ 11 k).toInt ≤ 3) := id hI9
  obtain ⟨i10, i11, i12, w13⟩ : (1 ≤ (σ 16 0).toInt ∧ (σ 16 0).toInt ≤ 8) ∧ (1 ≤ (σ 16 1).toInt ∧ (σ 16 1).toInt ≤ 12) ∧ (0 ≤ (σ 16 2).toInt ∧ (σ 16 2).toInt ≤ 999) ∧ (∀ k : Nat, k < 8 → 0 ≤ (σ 17 k).toInt ∧ (σ 17 k).toInt ≤ 3) := id hI16
  obtain ⟨i14, i15, w16⟩ : (0 ≤ (σ 38 0).toInt ∧ (σ 38 0).toInt ≤ 20) ∧ (0 ≤ (σ 38 1).toInt ∧ (σ 38 1).toInt ≤ 1000) ∧ (∀ k : Nat, k < 20 → 0 ≤ (σ 39 k).toInt ∧ (σ 39 k).toInt ≤ 6) := id hI38
  obtain ⟨i17, w18, w19⟩ : (0 ≤ (σ 47 0).toInt ∧ (σ 47 0).toInt ≤ 12) ∧ (∀ k : Nat, k < 12 → 0 ≤ (σ 48 k).toInt ∧ (σ 48 k).toInt ≤ 3) ∧ (∀ k : Nat, k < 12 → 0 ≤ (σ 49 k).toInt ∧ (σ 49 k).toInt ≤ 1) := id hI47
  have w20 : ∀ k : Nat, k < 6 → 0 ≤ (σ 52 k).toInt ∧ (σ 52 k).toInt ≤ 60 := hI50
  obtain ⟨i21, i22, i23, w24, w25, w26, w27⟩ : (0 ≤ (σ 55 5).toInt) ∧ ((σ 55 5).toInt ≤ (σ 55 4).toInt) ∧ ((σ 55 4).toInt ≤ 40) ∧ (∀ k : Nat, k < 68 → (-200) ≤ (σ 56 k).toInt ∧ (σ 56 k).toInt ≤ 500) ∧ (∀ k : Nat, k < 40 → 0 ≤ (σ 57 k).toInt ∧ (σ 57 k).toInt ≤ 67) ∧ (∀ k : Nat, k < 40 → (-200) ≤ (σ 58 k).toInt ∧ (σ 58 k).toInt ≤ 500) ∧ (∀ k : Nat, k < 40 → (-200) ≤ (σ 59 k).toInt ∧ (σ 59 k).toInt ≤ 500) := id hI101
  obtain ⟨i28, w29, w30⟩ : (0 ≤ (σ 55 6).toInt ∧ (σ 55 6).toInt ≤ 4) ∧ (∀ k : Nat, k < 4 → 0 ≤ (σ 60 k).toInt ∧ (σ 60 k).toInt ≤ 50) ∧ (∀ k : Nat, k < 4 → 0 ≤ (σ 61 k).toInt ∧ (σ 61 k).toInt ≤ 20) := id hI102
  obtain ⟨i31, i32, i33, w34, w35⟩ : (1 ≤ (σ 55 10).toInt ∧ (σ 55 10).toInt ≤ 8) ∧ (1 ≤ (σ 55 12).toInt ∧ (σ 55 12).toInt ≤ 12) ∧ (0 ≤ (σ 55 13).toInt ∧ (σ 55 13).toInt ≤ 999) ∧ (∀ k : Nat, k < 8 → 0 ≤ (σ 62 k).toInt ∧ (σ 62 k).toInt ≤ 3) ∧ (∀ k : Nat, k < 8 → 0 ≤ (σ 67 k).toInt ∧ (σ 67 k).toInt ≤ 3) := id hI104
  obtain ⟨i36, w37⟩ : (0 ≤ (σ 55 15).toInt ∧ (σ 55 15).toInt ≤ 80) ∧ (∀ k : Nat, k < 2 → (-1) ≤ (σ 65 k).toInt ∧ (σ 65 k).toInt ≤ 80) := id hI105
  obtain ⟨i38, w39, w40, w41⟩ : (0 ≤ (σ 55 32).toInt ∧ (σ 55 32).toInt ≤ 20) ∧ (∀ k : Nat, k < 20 → 0 ≤ (σ 70 k).toInt ∧ (σ 70 k).toInt ≤ 6) ∧ (∀ k : Nat, k < 20 → 0 ≤ (σ 71 k).toInt ∧ (σ 71 k).toInt ≤ 8) ∧ (∀ k : Nat, k < 160 → 0 ≤ (σ 72 k).toInt ∧ (σ 72 k).toInt ≤ 3) := id hI106
  obtain ⟨i42, i43, w44⟩ : (0 ≤ (σ 55 47).toInt ∧ (σ 55 47).toInt ≤ 12) ∧ ((σ 55 47).toInt ≤ (σ 55 12).toInt) ∧ (∀ k : Nat, k < 12 → 0 ≤ (σ 80 k).toInt ∧ (σ 80 k).toInt ≤ 3) := id hI107
  refine lv_aload_n hx hb dL_law_282 rfl (lv_at hl 2 rfl) ?_
  refine lv_aload_n hx hb dL_law_283 rfl (lv_at hl 3 rfl) ?_
  refine lv_iload_n hx hb dL_law_284 rfl (lv_at hl 0 rfl) ?_
  refine lv_iconst (v := 1) hx hb dL_law_285 (of_decide_eq_true rfl) ?_
  have g45 := jrg (rfl : x0.toInt = x0.toInt)
  refine lv_iadd hx hb dL_law_286 ?_
  refine lv_topi (fun x46 ex46 => ?_)
  exact by
   have tx46 : x46.toInt = x0.toInt + 1 := (jadd ex46 rfl jz_1 (by omega) (by omega)).trans (by omega)
   refine va_sld hx hb hX hbl hbA hS (jin tx46 (by omega) (by omega)) dL_law_287 ?_
   have g47 := jrg (rfl : (xs x46.toNatClampNeg).toInt = (xs x46.toNatClampNeg).toInt)
   refine lv_aload_n hx hb dL_law_288 rfl (lv_at hl 3 rfl) ?_
   refine lv_iload_n hx hb dL_law_289 rfl (lv_at hl 0 rfl) ?_
   refine lv_iconst (v := 2) hx hb dL_law_290 (of_decide_eq_true rfl) ?_
   refine lv_iadd hx hb dL_law_291 ?_
   refine lv_topi (fun x48 ex48 => ?_)
   have tx48 : x48.toInt = x0.toInt + 2 := (jadd ex48 rfl jz_2 (by omega) (by omega)).trans (by omega)
   exact by
    refine va_sld hx hb hX hbl hbA hS (jin tx48 (by omega) (by omega)) dL_law_292 ?_
    have g49 := jrg (rfl : (xs x48.toNatClampNeg).toInt = (xs x48.toNatClampNeg).toInt)
    refine lv_aload_n hx hb dL_law_293 rfl (lv_at hl 3 rfl) ?_
    refine lv_iload_n hx hb dL_law_294 rfl (lv_at hl 0 rfl) ?_
    refine lv_iconst (v := 3) hx hb dL_law_295 (of_decide_eq_true rfl) ?_
    refine lv_iadd hx hb dL_law_296 ?_
    refine lv_topi (fun x50 ex50 => ?_)
    have tx50 : x50.toInt = x0.toInt + 3 := (jadd ex50 rfl jz_3 (by omega) (by omega)).trans (by omega)
    refine va_sld hx hb hX hbl hbA hS (jin tx50 (by omega) (by omega)) dL_law_297 ?_
    exact by
     have g51 := jrg (rfl : (xs x50.toNatClampNeg).toInt = (xs x50.toNatClampNeg).toInt)
     refine jcallV (As := [.int (xs x46.toNatClampNeg), .int (xs x48.toNatClampNeg), .int (xs x50.toNatClampNeg)]) (rest := []) ⟨hx, hb, hml, hown, hts⟩ hK hP hA hS hZ (c_X11_field l D cI cL ad zz hJ σ τ (xs x46.toNatClampNeg) ((xs x46.toNatClampNeg).toInt) rfl (xs x48.toNatClampNeg) ((xs x48.toNatClampNeg).toInt) rfl (xs x50.toNatClampNeg) ((xs x50.toNatClampNeg).toInt) rfl hI2) cw_RL_22 (jc_0 cI cL ad σ τ) rfl ⟨Nat.le_of_ble_eq_true rfl, Nat.le_of_ble_eq_true rfl⟩ rfl rfl rfl hl.1 rfl (Nat.le_of_ble_eq_true rfl) dL_law_298 ⟨Nat.le_of_ble_eq_true rfl, Nat.le_of_ble_eq_true rfl⟩ (fun r53 σ52 τ52 H locs h52 hP hS => ?_)
     obtain ⟨rfl, f54, f55, I56, h52⟩ := h52
     obtain ⟨i58, i59, i60, i61, i62, w63⟩ : (0 ≤ (σ52 2 0).toInt ∧ (σ52 2 0).toInt ≤ 4) ∧ (0 ≤ (σ52 2 1).toInt ∧ (σ52 2 1).toInt ≤ 3) ∧ (0 ≤ (σ52 2 2).toInt) ∧ (0 ≤ (σ52 2 3).toInt) ∧ ((σ52 2 2).toInt + (σ52 2 3).toInt ≤ 40) ∧ (∀ k : Nat, k < 40 → 0 ≤ (σ52 6 k).toInt ∧ (σ52 6 k).toInt ≤ 67) := id I56
     have z64 : (σ52 2 0).toInt = (σ 2 0).toInt := (congrArg Int32.toInt (show σ52 2 0 = (σ 2 0) from (f55 0 (of_decide_eq_true rfl))))
     have z65 : (σ52 2 1).toInt = (σ 2 1).toInt := (congrArg Int32.toInt (show σ52 2 1 = (σ 2 1) from (f55 1 (of_decide_eq_true rfl))))
     rcases h52 with h66 | h67
     · obtain ⟨q72, k68, k69, k70, k71⟩ := h66
       have q72 := q72.symm
       subst q72
       refine lv_pop hx hb dL_law_301 rfl ?_
       refine lv_aload_n hx hb dL_law_302 rfl (lv_at hl 1 rfl) ?_
       refine lv_aload_n hx hb dL_law_303 rfl (lv_at hl 3 rfl) ?_
       refine lv_iload_n hx hb dL_law_304 rfl (lv_at hl 0 rfl) ?_
       refine lv_iconst (v := 1) hx hb dL_law_305 (of_decide_eq_true rfl) ?_
       refine lv_iadd hx hb dL_law_306 ?_
       refine jtopr ex46.symm ?_
       exact by
        refine va_sld hx hb hX hbl hbA hS (jin tx46 (by omega) (by omega)) dL_law_307 ?_
        refine lv_aload_n hx hb dL_law_308 rfl (lv_at hl 3 rfl) ?_
        refine lv_iload_n hx hb dL_law_309 rfl (lv_at hl 0 rfl) ?_
        refine lv_iconst (v := 2) hx hb dL_law_310 (of_decide_eq_true rfl) ?_
        refine lv_iadd hx hb dL_law_311 ?_
        refine jtopr ex48.symm ?_
        refine va_sld hx hb hX hbl hbA hS (jin tx48 (by omega) (by omega)) dL_law_312 ?_
        refine lv_aload_n hx hb dL_law_313 rfl (lv_at hl 3 rfl) ?_
        refine lv_iload_n hx hb dL_law_314 rfl (lv_at hl 0 rfl) ?_
        exact by
         refine lv_iconst (v := 3) hx hb dL_law_315 (of_decide_eq_true rfl) ?_
         refine lv_iadd hx hb dL_law_316 ?_
         refine jtopr ex50.symm ?_
         refine va_sld hx hb hX hbl hbA hS (jin tx50 (by omega) (by omega)) dL_law_317 ?_
         have I73 : jI101 σ52 := jI101_fr (congrFun (f54 55 (of_decide_eq_true rfl)) 4) (congrFun (f54 55 (of_decide_eq_true rfl)) 5) (f54 56 (of_decide_eq_true rfl)) (f54 57 (of_decide_eq_true rfl)) (f54 58 (of_decide_eq_true rfl)) (f54 59 (of_decide_eq_true rfl)) hI101
         have z74 : (σ52 55 5).toInt = (σ 55 5).toInt := (congrArg Int32.toInt (show σ52 55 5 = (σ 55 5) from (congrFun (f54 55 (of_decide_eq_true rfl)) 5)))
         have z75 : (σ52 55 4).toInt = (σ 55 4).toInt := (congrArg Int32.toInt (show σ52 55 4 = (σ 55 4) from (congrFun (f54 55 (of_decide_eq_true rfl)) 4)))
         refine jcallV (As := [.int (xs x46.toNatClampNeg), .int (xs x48.toNatClampNeg), .int (xs x50.toNatClampNeg)]) (rest := []) ⟨hx, hb, hml, hown, hts⟩ hK hP hA hS hZ (c_X12_field l D cI cL ad zz hJ σ52 τ (xs x46.toNatClampNeg) ((xs x46.toNatClampNeg).toInt) rfl (xs x48.toNatClampNeg) ((xs x48.toNatClampNeg).toInt) rfl (xs x50.toNatClampNeg) ((xs x50.toNatClampNeg).toInt) rfl I73) cw_RL_25 (jc_55 cI cL ad σ52 τ) rfl ⟨Nat.le_of_ble_eq_true rfl, Nat.le_of_ble_eq_true rfl⟩ rfl rfl rfl hl.1 rfl (Nat.le_of_ble_eq_true rfl) dL_law_318 ⟨Nat.le_of_ble_eq_true rfl, Nat.le_of_ble_eq_true rfl⟩ (fun r77 σ76 τ76 H locs h76 hP hS => ?_)
         obtain ⟨rfl, f78, f79, I80, h76⟩ := h76
         exact by
          obtain ⟨i82, i83, i84, w85, w86, w87, w88⟩ : (0 ≤ (σ76 55 5).toInt) ∧ ((σ76 55 5).toInt ≤ (σ76 55 4).toInt) ∧ ((σ76 55 4).toInt ≤ 40) ∧ (∀ k : Nat, k < 68 → (-200) ≤ (σ76 56 k).toInt ∧ (σ76 56 k).toInt ≤ 500) ∧ (∀ k : Nat, k < 40 → 0 ≤ (σ76 57 k).toInt ∧ (σ76 57 k).toInt ≤ 67) ∧ (∀ k : Nat, k < 40 → (-200) ≤ (σ76 58 k).toInt ∧ (σ76 58 k).toInt ≤ 500) ∧ (∀ k : Nat, k < 40 → (-200) ≤ (σ76 59 k).toInt ∧ (σ76 59 k).toInt ≤ 500) := id I80
          rcases h76 with h89 | h90
          · obtain ⟨q95, k91, k92, k93, k94⟩ := h89
            have q95 := q95.symm
            subst q95
            have z96 : (σ52 55 6).toInt = (σ 55 6).toInt := (congrArg Int32.toInt (show σ52 55 6 = (σ 55 6) from (congrFun (f54 55 (of_decide_eq_true rfl)) 6)))
            rw [show (σ52 55 6).toInt = (σ 2 0).toInt from by omega] at k93
            refine lv_pop hx hb dL_law_321 rfl ?_
            refine lv_goto (tgt := 1357) hx hb dL_law_322 (of_decide_eq_true rfl) ?_
            obtain ⟨x97, ex97⟩ : ∃ y : Int32, y = x0 + 6 := ⟨_, rfl⟩
            exact by
             have tx97 : x97.toInt = x0.toInt + 6 := (jadd ex97 rfl jz_6 (by omega) (by omega)).trans (by omega)
             refine lv_iinc (v := x97) (lv' := [(3, .int x97), (2, .ref (ad 55)), (1, .ref (ad 0)), (0, .ref b)]) hx hb dL_law_1357 hl (k := 0) rfl (by rw [ex97]; rfl) (of_decide_eq_true rfl) rfl (fun ls hl => ?_)
             refine lv_goto (tgt := 18) hx hb dL_law_1360 (of_decide_eq_true rfl) ?_
             have I98 : jI2 σ76 := jI2_fr (congrFun (f78 2 (of_decide_eq_true rfl)) 0) (congrFun (f78 2 (of_decide_eq_true rfl)) 1) (congrFun (f78 2 (of_decide_eq_true rfl)) 2) (congrFun (f78 2 (of_decide_eq_true rfl)) 3) (f78 6 (of_decide_eq_true rfl)) I56
             have I99 : jI9 σ76 := jI9_fr ((congrFun (f78 9 (of_decide_eq_true rfl)) 0).trans (congrFun (f54 9 (of_decide_eq_true rfl)) 0)) ((f78 10 (of_decide_eq_true rfl)).trans (f54 10 (of_decide_eq_true rfl))) ((f78 11 (of_decide_eq_true rfl)).trans (f54 11 (of_decide_eq_true rfl))) hI9
             have I100 : jI12 σ76 := jI12_fr ((congrFun (f78 12 (of_decide_eq_true rfl)) 0).trans (congrFun (f54 12 (of_decide_eq_true rfl)) 0)) ((f78 13 (of_decide_eq_true rfl)).trans (f54 13 (of_decide_eq_true rfl))) hI12
             have I101 : jI16 σ76 := jI16_fr ((congrFun (f78 16 (of_decide_eq_true rfl)) 0).trans (congrFun (f54 16 (of_decide_eq_true rfl)) 0)) ((congrFun (f78 16 (of_decide_eq_true rfl)) 1).trans (congrFun (f54 16 (of_decide_eq_true rfl)) 1)) ((congrFun (f78 16 (of_decide_eq_true rfl)) 2).trans (congrFun (f54 16 (of_decide_eq_true rfl)) 2)) ((f78 17 (of_decide_eq_true rfl)).trans (f54 17 (of_decide_eq_true rfl))) hI16
             have I102 : jI18 σ76 := jI18_fr ((congrFun (f78 18 (of_decide_eq_true rfl)) 0).trans (congrFun (f54 18 (of_decide_eq_true rfl)) 0)) ((f78 19 (of_decide_eq_true rfl)).trans (f54 19 (of_decide_eq_true rfl))) hI18
             have I103 : jI22 σ76 := jI22_fr ((congrFun (f78 22 (of_decide_eq_true rfl)) 0).trans (congrFun (f54 22 (of_decide_eq_true rfl)) 0)) ((f78 23 (of_decide_eq_true rfl)).trans (f54 23 (of_decide_eq_true rfl))) hI22
             exact by
              have I104 : jI31 σ76 := jI31_fr ((congrFun (f78 31 (of_decide_eq_true rfl)) 8).trans (congrFun (f54 31 (of_decide_eq_true rfl)) 8)) ((f78 33 (of_decide_eq_true rfl)).trans (f54 33 (of_decide_eq_true rfl))) ((f78 36 (of_decide_eq_true rfl)).trans (f54 36 (of_decide_eq_true rfl))) hI31
              have I105 : jI38 σ76 := jI38_fr ((congrFun (f78 38 (of_decide_eq_true rfl)) 0).trans (congrFun (f54 38 (of_decide_eq_true rfl)) 0)) ((congrFun (f78 38 (of_decide_eq_true rfl)) 1).trans (congrFun (f54 38 (of_decide_eq_true rfl)) 1)) ((f78 39 (of_decide_eq_true rfl)).trans (f54 39 (of_decide_eq_true rfl))) hI38
              have I106 : jI43 σ76 := jI43_fr ((congrFun (f78 43 (of_decide_eq_true rfl)) 8).trans (congrFun (f54 43 (of_decide_eq_true rfl)) 8)) hI43
              have I107 : jI47 σ76 := jI47_fr ((congrFun (f78 47 (of_decide_eq_true rfl)) 0).trans (congrFun (f54 47 (of_decide_eq_true rfl)) 0)) ((f78 48 (of_decide_eq_true rfl)).trans (f54 48 (of_decide_eq_true rfl))) ((f78 49 (of_decide_eq_true rfl)).trans (f54 49 (of_decide_eq_true rfl))) hI47
              have I108 : jI50 σ76 := jI50_fr ((f78 52 (of_decide_eq_true rfl)).trans (f54 52 (of_decide_eq_true rfl))) hI50
              have I109 : jI102 σ76 := jI102_fr ((f79 6 (of_decide_eq_true rfl)).trans (congrFun (f54 55 (of_decide_eq_true rfl)) 6)) ((f78 60 (of_decide_eq_true rfl)).trans (f54 60 (of_decide_eq_true rfl))) ((f78 61 (of_decide_eq_true rfl)).trans (f54 61 (of_decide_eq_true rfl))) hI102
              have I110 : jI103 σ76 := jI103_fr ((f79 9 (of_decide_eq_true rfl)).trans (congrFun (f54 55 (of_decide_eq_true rfl)) 9)) hI103
              have I111 : jI104 σ76 := jI104_fr ((f79 10 (of_decide_eq_true rfl)).trans (congrFun (f54 55 (of_decide_eq_true rfl)) 10)) ((f79 12 (of_decide_eq_true rfl)).trans (congrFun (f54 55 (of_decide_eq_true rfl)) 12)) ((f79 13 (of_decide_eq_true rfl)).trans (congrFun (f54 55 (of_decide_eq_true rfl)) 13)) ((f78 62 (of_decide_eq_true rfl)).trans (f54 62 (of_decide_eq_true rfl))) ((f78 67 (of_decide_eq_true rfl)).trans (f54 67 (of_decide_eq_true rfl))) hI104
              have I112 : jI105 σ76 := jI105_fr ((f79 15 (of_decide_eq_true rfl)).trans (congrFun (f54 55 (of_decide_eq_true rfl)) 15)) ((f78 65 (of_decide_eq_true rfl)).trans (f54 65 (of_decide_eq_true rfl))) hI105
              have I113 : jI106 σ76 := jI106_fr ((f79 32 (of_decide_eq_true rfl)).trans (congrFun (f54 55 (of_decide_eq_true rfl)) 32)) ((f78 70 (of_decide_eq_true rfl)).trans (f54 70 (of_decide_eq_true rfl))) ((f78 71 (of_decide_eq_true rfl)).trans (f54 71 (of_decide_eq_true rfl))) ((f78 72 (of_decide_eq_true rfl)).trans (f54 72 (of_decide_eq_true rfl))) hI106
              have I114 : jI107 σ76 := jI107_fr ((f79 12 (of_decide_eq_true rfl)).trans (congrFun (f54 55 (of_decide_eq_true rfl)) 12)) ((f79 47 (of_decide_eq_true rfl)).trans (congrFun (f54 55 (of_decide_eq_true rfl)) 47)) ((f78 80 (of_decide_eq_true rfl)).trans (f54 80 (of_decide_eq_true rfl))) hI107
              have I115 : jI109 σ76 := jI109_fr ((f79 50 (of_decide_eq_true rfl)).trans (congrFun (f54 55 (of_decide_eq_true rfl)) 50)) hI109
              have I116 : jI110 σ76 := jI110_fr ((f78 86 (of_decide_eq_true rfl)).trans (f54 86 (of_decide_eq_true rfl))) ((f78 87 (of_decide_eq_true rfl)).trans (f54 87 (of_decide_eq_true rfl))) hI110
              have I117 : jI111 σ76 := jI111_fr ((f78 79 (of_decide_eq_true rfl)).trans (f54 79 (of_decide_eq_true rfl))) hI111
              have I118 : jI119 σ76 := jI119_fr ((f78 68 (of_decide_eq_true rfl)).trans (f54 68 (of_decide_eq_true rfl))) hI119
              have p119 : jKept σ76 := jKept.fr ((f78 75 (of_decide_eq_true rfl)).trans (f54 75 (of_decide_eq_true rfl))) ((f78 76 (of_decide_eq_true rfl)).trans (f54 76 (of_decide_eq_true rfl))) ((f78 77 (of_decide_eq_true rfl)).trans (f54 77 (of_decide_eq_true rfl))) hs_jKept
              have p120 : jBook σ76 := jBook.fr ((f79 47 (of_decide_eq_true rfl)).trans (congrFun (f54 55 (of_decide_eq_true rfl)) 47)) ((f79 10 (of_decide_eq_true rfl)).trans (congrFun (f54 55 (of_decide_eq_true rfl)) 10)) ((f78 81 (of_decide_eq_true rfl)).trans (f54 81 (of_decide_eq_true rfl))) hs_jBook
              have z121 : (σ76 2 0).toInt = (σ 2 0).toInt := (congrArg Int32.toInt (show σ76 2 0 = (σ 2 0) from ((congrFun (f78 2 (of_decide_eq_true rfl)) 0).trans (f55 0 (of_decide_eq_true rfl)))))
              have z122 : (σ76 55 6).toInt = (σ 55 6).toInt := (congrArg Int32.toInt (show σ76 55 6 = (σ 55 6) from ((f79 6 (of_decide_eq_true rfl)).trans (congrFun (f54 55 (of_decide_eq_true rfl)) 6))))
              have z123 : (σ76 2 2).toInt = (σ52 2 2).toInt := (congrArg Int32.toInt (show σ76 2 2 = (σ52 2 2) from (congrFun (f78 2 (of_decide_eq_true rfl)) 2)))
              have z124 : (σ76 2 3).toInt = (σ52 2 3).toInt := (congrArg Int32.toInt (show σ76 2 3 = (σ52 2 3) from (congrFun (f78 2 (of_decide_eq_true rfl)) 3)))
              have z125 : (σ76 9 0).toInt = (σ 9 0).toInt := (congrArg Int32.toInt (show σ76 9 0 = (σ 9 0) from ((congrFun (f78 9 (of_decide_eq_true rfl)) 0).trans (congrFun (f54 9 (of_decide_eq_true rfl)) 0))))
              have z126 : (σ76 55 15).toInt = (σ 55 15).toInt := (congrArg Int32.toInt (show σ76 55 15 = (σ 55 15) from ((f79 15 (of_decide_eq_true rfl)).trans (congrFun (f54 55 (of_decide_eq_true rfl)) 15))))
              have z127 : (σ76 16 0).toInt = (σ 16 0).toInt := (congrArg Int32.toInt (show σ76 16 0 = (σ 16 0) from ((congrFun (f78 16 (of_decide_eq_true rfl)) 0).trans (congrFun (f54 16 (of_decide_eq_true rfl)) 0))))
              have z128 : (σ76 55 10).toInt = (σ 55 10).toInt := (congrArg Int32.toInt (show σ76 55 10 = (σ 55 10) from ((f79 10 (of_decide_eq_true rfl)).trans (congrFun (f54 55 (of_decide_eq_true rfl)) 10))))
              have z129 : (σ76 16 1).toInt = (σ 16 1).toInt := (congrArg Int32.toInt (show σ76 16 1 = (σ 16 1) from ((congrFun (f78 16 (of_decide_eq_true rfl)) 1).trans (congrFun (f54 16 (of_decide_eq_true rfl)) 1))))
              have z130 : (σ76 55 12).toInt = (σ 55 12).toInt := (congrArg Int32.toInt (show σ76 55 12 = (σ 55 12) from ((f79 12 (of_decide_eq_true rfl)).trans (congrFun (f54 55 (of_decide_eq_true rfl)) 12))))
              have z131 : (σ76 16 2).toInt = (σ 16 2).toInt := (congrArg Int32.toInt (show σ76 16 2 = (σ 16 2) from ((congrFun (f78 16 (of_decide_eq_true rfl)) 2).trans (congrFun (f54 16 (of_decide_eq_true rfl)) 2))))
              have z132 : (σ76 55 13).toInt = (σ 55 13).toInt := (congrArg Int32.toInt (show σ76 55 13 = (σ 55 13) from ((f79 13 (of_decide_eq_true rfl)).trans (congrFun (f54 55 (of_decide_eq_true rfl)) 13))))
              have z133 : (σ76 38 0).toInt = (σ 38 0).toInt := (congrArg Int32.toInt (show σ76 38 0 = (σ 38 0) from ((congrFun (f78 38 (of_decide_eq_true rfl)) 0).trans (congrFun (f54 38 (of_decide_eq_true rfl)) 0))))
              have z134 : (σ76 55 32).toInt = (σ 55 32).toInt := (congrArg Int32.toInt (show σ76 55 32 = (σ 55 32) from ((f79 32 (of_decide_eq_true rfl)).trans (congrFun (f54 55 (of_decide_eq_true rfl)) 32))))
              have z135 : (σ76 38 1).toInt = (σ 38 1).toInt := (congrArg Int32.toInt (show σ76 38 1 = (σ 38 1) from ((congrFun (f78 38 (of_decide_eq_true rfl)) 1).trans (congrFun (f54 38 (of_decide_eq_true rfl)) 1))))
              have z136 : (σ76 55 55).toInt = (σ 55 55).toInt := (congrArg Int32.toInt (show σ76 55 55 = (σ 55 55) from ((f79 55 (of_decide_eq_true rfl)).trans (congrFun (f54 55 (of_decide_eq_true rfl)) 55))))
              have z137 : (σ76 47 0).toInt = (σ 47 0).toInt := (congrArg Int32.toInt (show σ76 47 0 = (σ 47 0) from ((congrFun (f78 47 (of_decide_eq_true rfl)) 0).trans (congrFun (f54 47 (of_decide_eq_true rfl)) 0))))
              have z138 : (σ76 55 47).toInt = (σ 55 47).toInt := (congrArg Int32.toInt (show σ76 55 47 = (σ 55 47) from ((f79 47 (of_decide_eq_true rfl)).trans (congrFun (f54 55 (of_decide_eq_true rfl)) 47))))
              have z139 : (σ76 55 30).toInt = (σ 55 30).toInt := (congrArg Int32.toInt (show σ76 55 30 = (σ 55 30) from ((f79 30 (of_decide_eq_true rfl)).trans (congrFun (f54 55 (of_decide_eq_true rfl)) 30))))
              have z140 : (σ76 55 31).toInt = (σ 55 31).toInt := (congrArg Int32.toInt (show σ76 55 31 = (σ 55 31) from ((f79 31 (of_decide_eq_true rfl)).trans (congrFun (f54 55 (of_decide_eq_true rfl)) 31))))
              exact by exact ih x97 σ76 τ _ _ ls (by have h9 := tx97; omega) ⟨I98, I99, I100, I101, I102, I103, I104, I105, I106, I107, I108, I80, I109, I110, I111, I112, I113, I114, I115, I116, I117, I118, p119, p120, (by omega), (by omega), (by omega), (by omega), (by omega), (by omega), (by omega), (by omega), (by omega), (by omega), (by omega), (by omega), (show jNumP (σ76 3) (σ76 56) (σ76 6) (σ76 57) (σ76 7) (σ76 58) (σ76 8) (σ76 59) (σ76 55 6).toInt (σ76 55 4).toInt by rw [show σ76 3 = σ 3 from ((f78 3 (of_decide_eq_true rfl)).trans k71.1), show σ76 56 = σ 56 from (k94.1.trans (f54 56 (of_decide_eq_true rfl))), show σ76 6 = σ 6 from ((f78 6 (of_decide_eq_true rfl)).trans k71.2.1), show σ76 57 = σ 57 from (k94.2.1.trans (f54 57 (of_decide_eq_true rfl))), show σ76 7 = σ 7 from ((f78 7 (of_decide_eq_true rfl)).trans k71.2.2.1), show σ76 58 = σ 58 from (k94.2.2.1.trans (f54 58 (of_decide_eq_true rfl))), show σ76 8 = σ 8 from ((f78 8 (of_decide_eq_true rfl)).trans k71.2.2.2), show σ76 59 = σ 59 from (k94.2.2.2.trans (f54 59 (of_decide_eq_true rfl))), show (σ76 55 6).toInt = (σ 55 6).toInt from by omega, show (σ76 55 4).toInt = (σ 55 4).toInt from by omega]; exact hr0), (show jOvP (σ76 56) (σ76 57) (σ76 58) (σ76 59) (σ76 55 4).toInt by rw [show σ76 56 = σ 56 from (k94.1.trans (f54 56 (of_decide_eq_true rfl))), show σ76 57 = σ 57 from (k94.2.1.trans (f54 57 (of_decide_eq_true rfl))), show σ76 58 = σ 58 from (k94.2.2.1.trans (f54 58 (of_decide_eq_true rfl))), show σ76 59 = σ 59 from (k94.2.2.2.trans (f54 59 (of_decide_eq_true rfl))), show (σ76 55 4).toInt = (σ 55 4).toInt from by omega]; exact hr1), (show jTp (σ76 10) (σ76 63) (σ76 55 15).toInt by rw [show σ76 10 = σ 10 from ((f78 10 (of_decide_eq_true rfl)).trans (f54 10 (of_decide_eq_true rfl))), show σ76 63 = σ 63 from ((f78 63 (of_decide_eq_true rfl)).trans (f54 63 (of_decide_eq_true rfl)))]; exact hr2.le (by omega)), (show jSo (σ76 17) (σ76 62) (σ76 16 0).toInt by rw [show σ76 17 = σ 17 from ((f78 17 (of_decide_eq_true rfl)).trans (f54 17 (of_decide_eq_true rfl))), show σ76 62 = σ 62 from ((f78 62 (of_decide_eq_true rfl)).trans (f54 62 (of_decide_eq_true rfl))), show (σ76 16 0).toInt = (σ 16 0).toInt from by omega]; exact hr3), (show jShP (σ76 51) (σ76 52) (σ76 53) (σ76 86) (σ76 87) (σ76 55 32).toInt by rw [show σ76 51 = σ 51 from ((f78 51 (of_decide_eq_true rfl)).trans (f54 51 (of_decide_eq_true rfl))), show σ76 52 = σ 52 from ((f78 52 (of_decide_eq_true rfl)).trans (f54 52 (of_decide_eq_true rfl))), show σ76 53 = σ 53 from ((f78 53 (of_decide_eq_true rfl)).trans (f54 53 (of_decide_eq_true rfl))), show σ76 86 = σ 86 from ((f78 86 (of_decide_eq_true rfl)).trans (f54 86 (of_decide_eq_true rfl))), show σ76 87 = σ 87 from ((f78 87 (of_decide_eq_true rfl)).trans (f54 87 (of_decide_eq_true rfl)))]; exact (hr4.up (by omega) (by omega))), (show jEl (σ76 51) (σ76 52) (τ 54) (τ 88) by rw [show σ76 51 = σ 51 from ((f78 51 (of_decide_eq_true rfl)).trans (f54 51 (of_decide_eq_true rfl))), show σ76 52 = σ 52 from ((f78 52 (of_decide_eq_true rfl)).trans (f54 52 (of_decide_eq_true rfl)))]; exact hr5), (show jByP (σ76 51) (σ76 52) (τ 54) by rw [show σ76 51 = σ 51 from ((f78 51 (of_decide_eq_true rfl)).trans (f54 51 (of_decide_eq_true rfl))), show σ76 52 = σ 52 from ((f78 52 (of_decide_eq_true rfl)).trans (f54 52 (of_decide_eq_true rfl)))]; exact hr6), (show jBk (σ76 48) (σ76 80) (σ76 49) (σ76 81) (σ76 55 47).toInt by rw [show σ76 48 = σ 48 from ((f78 48 (of_decide_eq_true rfl)).trans (f54 48 (of_decide_eq_true rfl))), show σ76 49 = σ 49 from ((f78 49 (of_decide_eq_true rfl)).trans (f54 49 (of_decide_eq_true rfl))), show σ76 80 = σ 80 from ((f78 80 (of_decide_eq_true rfl)).trans (f54 80 (of_decide_eq_true rfl))), show σ76 81 = σ 81 from ((f78 81 (of_decide_eq_true rfl)).trans (f54 81 (of_decide_eq_true rfl))), show (σ76 55 47).toInt = (σ 55 47).toInt from by omega]; exact hr7), (show jKd (σ76 39) (σ76 70) (σ76 55 32).toInt by rw [show σ76 39 = σ 39 from ((f78 39 (of_decide_eq_true rfl)).trans (f54 39 (of_decide_eq_true rfl))), show σ76 70 = σ 70 from ((f78 70 (of_decide_eq_true rfl)).trans (f54 70 (of_decide_eq_true rfl))), show (σ76 55 32).toInt = (σ 55 32).toInt from by omega]; exact hr8), (show jTt (σ76 42) (σ76 85) (σ76 55 55).toInt by rw [show σ76 42 = σ 42 from ((f78 42 (of_decide_eq_true rfl)).trans (f54 42 (of_decide_eq_true rfl))), show σ76 85 = σ 85 from ((f78 85 (of_decide_eq_true rfl)).trans (f54 85 (of_decide_eq_true rfl))), show (σ76 55 55).toInt = (σ 55 55).toInt from by omega]; exact hr9)⟩ hP hS (lv_sub hl [0, 1, 2, 3] rfl)
          · obtain ⟨q143, k142⟩ := h90
            have z144 : (σ52 55 6).toInt = (σ 55 6).toInt := (congrArg Int32.toInt (show σ52 55 6 = (σ 55 6) from (congrFun (f54 55 (of_decide_eq_true rfl)) 6)))
            rw [show (σ52 55 6).toInt = (σ 2 0).toInt from by omega] at k142
            exact absurd k142.1 k70
     · obtain ⟨q146, k145⟩ := h67
       refine lv_pop hx hb dL_law_301 rfl ?_
       refine lv_aload_n hx hb dL_law_302 rfl (lv_at hl 1 rfl) ?_
       refine lv_aload_n hx hb dL_law_303 rfl (lv_at hl 3 rfl) ?_
       refine lv_iload_n hx hb dL_law_304 rfl (lv_at hl 0 rfl) ?_
       refine lv_iconst (v := 1) hx hb dL_law_305 (of_decide_eq_true rfl) ?_
       refine lv_iadd hx hb dL_law_306 ?_
       refine jtopr ex46.symm ?_
       exact by
        refine va_sld hx hb hX hbl hbA hS (jin tx46 (by omega) (by omega)) dL_law_307 ?_
        refine lv_aload_n hx hb dL_law_308 rfl (lv_at hl 3 rfl) ?_
        refine lv_iload_n hx hb dL_law_309 rfl (lv_at hl 0 rfl) ?_
        refine lv_iconst (v := 2) hx hb dL_law_310 (of_decide_eq_true rfl) ?_
        refine lv_iadd hx hb dL_law_311 ?_
        refine jtopr ex48.symm ?_
        refine va_sld hx hb hX hbl hbA hS (jin tx48 (by omega) (by omega)) dL_law_312 ?_
        refine lv_aload_n hx hb dL_law_313 rfl (lv_at hl 3 rfl) ?_
        refine lv_iload_n hx hb dL_law_314 rfl (lv_at hl 0 rfl) ?_
        exact by
         refine lv_iconst (v := 3) hx hb dL_law_315 (of_decide_eq_true rfl) ?_
         refine lv_iadd hx hb dL_law_316 ?_
         refine jtopr ex50.symm ?_
         refine va_sld hx hb hX hbl hbA hS (jin tx50 (by omega) (by omega)) dL_law_317 ?_
         have I147 : jI101 σ52 := jI101_fr (congrFun (f54 55 (of_decide_eq_true rfl)) 4) (congrFun (f54 55 (of_decide_eq_true rfl)) 5) (f54 56 (of_decide_eq_true rfl)) (f54 57 (of_decide_eq_true rfl)) (f54 58 (of_decide_eq_true rfl)) (f54 59 (of_decide_eq_true rfl)) hI101
         have z148 : (σ52 55 5).toInt = (σ 55 5).toInt := (congrArg Int32.toInt (show σ52 55 5 = (σ 55 5) from (congrFun (f54 55 (of_decide_eq_true rfl)) 5)))
         have z149 : (σ52 55 4).toInt = (σ 55 4).toInt := (congrArg Int32.toInt (show σ52 55 4 = (σ 55 4) from (congrFun (f54 55 (of_decide_eq_true rfl)) 4)))
         refine jcallV (As := [.int (xs x46.toNatClampNeg), .int (xs x48.toNatClampNeg), .int (xs x50.toNatClampNeg)]) (rest := []) ⟨hx, hb, hml, hown, hts⟩ hK hP hA hS hZ (c_X12_field l D cI cL ad zz hJ σ52 τ (xs x46.toNatClampNeg) ((xs x46.toNatClampNeg).toInt) rfl (xs x48.toNatClampNeg) ((xs x48.toNatClampNeg).toInt) rfl (xs x50.toNatClampNeg) ((xs x50.toNatClampNeg).toInt) rfl I147) cw_RL_25 (jc_55 cI cL ad σ52 τ) rfl ⟨Nat.le_of_ble_eq_true rfl, Nat.le_of_ble_eq_true rfl⟩ rfl rfl rfl hl.1 rfl (Nat.le_of_ble_eq_true rfl) dL_law_318 ⟨Nat.le_of_ble_eq_true rfl, Nat.le_of_ble_eq_true rfl⟩ (fun r151 σ150 τ150 H locs h150 hP hS => ?_)
         obtain ⟨rfl, f152, f153, I154, h150⟩ := h150
         exact by
          obtain ⟨i156, i157, i158, w159, w160, w161, w162⟩ : (0 ≤ (σ150 55 5).toInt) ∧ ((σ150 55 5).toInt ≤ (σ150 55 4).toInt) ∧ ((σ150 55 4).toInt ≤ 40) ∧ (∀ k : Nat, k < 68 → (-200) ≤ (σ150 56 k).toInt ∧ (σ150 56 k).toInt ≤ 500) ∧ (∀ k : Nat, k < 40 → 0 ≤ (σ150 57 k).toInt ∧ (σ150 57 k).toInt ≤ 67) ∧ (∀ k : Nat, k < 40 → (-200) ≤ (σ150 58 k).toInt ∧ (σ150 58 k).toInt ≤ 500) ∧ (∀ k : Nat, k < 40 → (-200) ≤ (σ150 59 k).toInt ∧ (σ150 59 k).toInt ≤ 500) := id I154
          rcases h150 with h163 | h164
          · obtain ⟨q169, k165, k166, k167, k168⟩ := h163
            have q169 := q169.symm
            subst q169
            have z170 : (σ52 55 6).toInt = (σ 55 6).toInt := (congrArg Int32.toInt (show σ52 55 6 = (σ 55 6) from (congrFun (f54 55 (of_decide_eq_true rfl)) 6)))
            rw [show (σ52 55 6).toInt = (σ 2 0).toInt from by omega] at k167
            exact absurd k145.1 k167
          · obtain ⟨q172, k171⟩ := h164
            have z173 : (σ52 55 6).toInt = (σ 55 6).toInt := (congrArg Int32.toInt (show σ52 55 6 = (σ 55 6) from (congrFun (f54 55 (of_decide_eq_true rfl)) 6)))
            rw [show (σ52 55 6).toInt = (σ 2 0).toInt from by omega] at k171
            obtain ⟨e174, q175, l176, c177⟩ := k145
            obtain ⟨-, q178, l179, c180⟩ := k171
            exact by
             have p181 := jField_pl (by omega) e174 l176 l179
             rw [show σ52 56 = σ 56 from (f54 56 (of_decide_eq_true rfl)), show σ52 57 = σ 57 from (f54 57 (of_decide_eq_true rfl)), show σ52 58 = σ 58 from (f54 58 (of_decide_eq_true rfl)), show σ52 59 = σ 59 from (f54 59 (of_decide_eq_true rfl)), show (σ52 55 4).toInt = (σ 55 4).toInt from by omega] at c180
             have r185 := hr0.res p181.1 (by have h9 := p181.2.1; omega) c177 c180 p181.2.2
             have k184 := hr0.chg p181.1 (by have h9 := p181.2.1; omega) c177 c180 p181.2.2 (by omega) (by omega) (by omega)
             have k182 := k184.2.1
             have k183 := k184.2.2
             have o186 : 32 ≤ q178 → q178 ≤ 35 → 0 ≤ (xs x50.toNatClampNeg).toInt ∧ (xs x50.toNatClampNeg).toInt ≤ 8 := fun x y => by
               have e := e174
               have l := l179
               unfold jFok at e; unfold jFpl at l; omega
             exact by
              refine lv_pop hx hb dL_law_321 rfl ?_
              refine lv_goto (tgt := 1357) hx hb dL_law_322 (of_decide_eq_true rfl) ?_
              obtain ⟨x187, ex187⟩ : ∃ y : Int32, y = x0 + 6 := ⟨_, rfl⟩
              have tx187 : x187.toInt = x0.toInt + 6 := (jadd ex187 rfl jz_6 (by omega) (by omega)).trans (by omega)
              refine lv_iinc (v := x187) (lv' := [(3, .int x187), (2, .ref (ad 55)), (1, .ref (ad 0)), (0, .ref b)]) hx hb dL_law_1357 hl (k := 0) rfl (by rw [ex187]; rfl) (of_decide_eq_true rfl) rfl (fun ls hl => ?_)
              refine lv_goto (tgt := 18) hx hb dL_law_1360 (of_decide_eq_true rfl) ?_
              have I188 : jI2 σ150 := jI2_fr (congrFun (f152 2 (of_decide_eq_true rfl)) 0) (congrFun (f152 2 (of_decide_eq_true rfl)) 1) (congrFun (f152 2 (of_decide_eq_true rfl)) 2) (congrFun (f152 2 (of_decide_eq_true rfl)) 3) (f152 6 (of_decide_eq_true rfl)) I56
              have I189 : jI9 σ150 := jI9_fr ((congrFun (f152 9 (of_decide_eq_true rfl)) 0).trans (congrFun (f54 9 (of_decide_eq_true rfl)) 0)) ((f152 10 (of_decide_eq_true rfl)).trans (f54 10 (of_decide_eq_true rfl))) ((f152 11 (of_decide_eq_true rfl)).trans (f54 11 (of_decide_eq_true rfl))) hI9
              have I190 : jI12 σ150 := jI12_fr ((congrFun (f152 12 (of_decide_eq_true rfl)) 0).trans (congrFun (f54 12 (of_decide_eq_true rfl)) 0)) ((f152 13 (of_decide_eq_true rfl)).trans (f54 13 (of_decide_eq_true rfl))) hI12
              exact by
               have I191 : jI16 σ150 := jI16_fr ((congrFun (f152 16 (of_decide_eq_true rfl)) 0).trans (congrFun (f54 16 (of_decide_eq_true rfl)) 0)) ((congrFun (f152 16 (of_decide_eq_true rfl)) 1).trans (congrFun (f54 16 (of_decide_eq_true rfl)) 1)) ((congrFun (f152 16 (of_decide_eq_true rfl)) 2).trans (congrFun (f54 16 (of_decide_eq_true rfl)) 2)) ((f152 17 (of_decide_eq_true rfl)).trans (f54 17 (of_decide_eq_true rfl))) hI16
               have I192 : jI18 σ150 := jI18_fr ((congrFun (f152 18 (of_decide_eq_true rfl)) 0).trans (congrFun (f54 18 (of_decide_eq_true rfl)) 0)) ((f152 19 (of_decide_eq_true rfl)).trans (f54 19 (of_decide_eq_true rfl))) hI18
               have I193 : jI22 σ150 := jI22_fr ((congrFun (f152 22 (of_decide_eq_true rfl)) 0).trans (congrFun (f54 22 (of_decide_eq_true rfl)) 0)) ((f152 23 (of_decide_eq_true rfl)).trans (f54 23 (of_decide_eq_true rfl))) hI22
               have I194 : jI31 σ150 := jI31_fr ((congrFun (f152 31 (of_decide_eq_true rfl)) 8).trans (congrFun (f54 31 (of_decide_eq_true rfl)) 8)) ((f152 33 (of_decide_eq_true rfl)).trans (f54 33 (of_decide_eq_true rfl))) ((f152 36 (of_decide_eq_true rfl)).trans (f54 36 (of_decide_eq_true rfl))) hI31
               have I195 : jI38 σ150 := jI38_fr ((congrFun (f152 38 (of_decide_eq_true rfl)) 0).trans (congrFun (f54 38 (of_decide_eq_true rfl)) 0)) ((congrFun (f152 38 (of_decide_eq_true rfl)) 1).trans (congrFun (f54 38 (of_decide_eq_true rfl)) 1)) ((f152 39 (of_decide_eq_true rfl)).trans (f54 39 (of_decide_eq_true rfl))) hI38
               have I196 : jI43 σ150 := jI43_fr ((congrFun (f152 43 (of_decide_eq_true rfl)) 8).trans (congrFun (f54 43 (of_decide_eq_true rfl)) 8)) hI43
               have I197 : jI47 σ150 := jI47_fr ((congrFun (f152 47 (of_decide_eq_true rfl)) 0).trans (congrFun (f54 47 (of_decide_eq_true rfl)) 0)) ((f152 48 (of_decide_eq_true rfl)).trans (f54 48 (of_decide_eq_true rfl))) ((f152 49 (of_decide_eq_true rfl)).trans (f54 49 (of_decide_eq_true rfl))) hI47
               have I198 : jI50 σ150 := jI50_fr ((f152 52 (of_decide_eq_true rfl)).trans (f54 52 (of_decide_eq_true rfl))) hI50
               have I199 : jI102 σ150 := jI102_fr ((f153 6 (of_decide_eq_true rfl)).trans (congrFun (f54 55 (of_decide_eq_true rfl)) 6)) ((f152 60 (of_decide_eq_true rfl)).trans (f54 60 (of_decide_eq_true rfl))) ((f152 61 (of_decide_eq_true rfl)).trans (f54 61 (of_decide_eq_true rfl))) hI102
               have I200 : jI103 σ150 := jI103_fr ((f153 9 (of_decide_eq_true rfl)).trans (congrFun (f54 55 (of_decide_eq_true rfl)) 9)) hI103
               have I201 : jI104 σ150 := jI104_fr ((f153 10 (of_decide_eq_true rfl)).trans (congrFun (f54 55 (of_decide_eq_true rfl)) 10)) ((f153 12 (of_decide_eq_true rfl)).trans (congrFun (f54 55 (of_decide_eq_true rfl)) 12)) ((f153 13 (of_decide_eq_true rfl)).trans (congrFun (f54 55 (of_decide_eq_true rfl)) 13)) ((f152 62 (of_decide_eq_true rfl)).trans (f54 62 (of_decide_eq_true rfl))) ((f152 67 (of_decide_eq_true rfl)).trans (f54 67 (of_decide_eq_true rfl))) hI104
               have I202 : jI105 σ150 := jI105_fr ((f153 15 (of_decide_eq_true rfl)).trans (congrFun (f54 55 (of_decide_eq_true rfl)) 15)) ((f152 65 (of_decide_eq_true rfl)).trans (f54 65 (of_decide_eq_true rfl))) hI105
               have I203 : jI106 σ150 := jI106_fr ((f153 32 (of_decide_eq_true rfl)).trans (congrFun (f54 55 (of_decide_eq_true rfl)) 32)) ((f152 70 (of_decide_eq_true rfl)).trans (f54 70 (of_decide_eq_true rfl))) ((f152 71 (of_decide_eq_true rfl)).trans (f54 71 (of_decide_eq_true rfl))) ((f152 72 (of_decide_eq_true rfl)).trans (f54 72 (of_decide_eq_true rfl))) hI106
               have I204 : jI107 σ150 := jI107_fr ((f153 12 (of_decide_eq_true rfl)).trans (congrFun (f54 55 (of_decide_eq_true rfl)) 12)) ((f153 47 (of_decide_eq_true rfl)).trans (congrFun (f54 55 (of_decide_eq_true rfl)) 47)) ((f152 80 (of_decide_eq_true rfl)).trans (f54 80 (of_decide_eq_true rfl))) hI107
               have I205 : jI109 σ150 := jI109_fr ((f153 50 (of_decide_eq_true rfl)).trans (congrFun (f54 55 (of_decide_eq_true rfl)) 50)) hI109
               have I206 : jI110 σ150 := jI110_fr ((f152 86 (of_decide_eq_true rfl)).trans (f54 86 (of_decide_eq_true rfl))) ((f152 87 (of_decide_eq_true rfl)).trans (f54 87 (of_decide_eq_true rfl))) hI110
               have I207 : jI111 σ150 := jI111_fr ((f152 79 (of_decide_eq_true rfl)).trans (f54 79 (of_decide_eq_true rfl))) hI111
               have I208 : jI119 σ150 := jI119_fr ((f152 68 (of_decide_eq_true rfl)).trans (f54 68 (of_decide_eq_true rfl))) hI119
               have p209 : jKept σ150 := jKept.fr ((f152 75 (of_decide_eq_true rfl)).trans (f54 75 (of_decide_eq_true rfl))) ((f152 76 (of_decide_eq_true rfl)).trans (f54 76 (of_decide_eq_true rfl))) ((f152 77 (of_decide_eq_true rfl)).trans (f54 77 (of_decide_eq_true rfl))) hs_jKept
               have p210 : jBook σ150 := jBook.fr ((f153 47 (of_decide_eq_true rfl)).trans (congrFun (f54 55 (of_decide_eq_true rfl)) 47)) ((f153 10 (of_decide_eq_true rfl)).trans (congrFun (f54 55 (of_decide_eq_true rfl)) 10)) ((f152 81 (of_decide_eq_true rfl)).trans (f54 81 (of_decide_eq_true rfl))) hs_jBook
               have z211 : (σ150 2 0).toInt = (σ 2 0).toInt := (congrArg Int32.toInt (show σ150 2 0 = (σ 2 0) from ((congrFun (f152 2 (of_decide_eq_true rfl)) 0).trans (f55 0 (of_decide_eq_true rfl)))))
               have z212 : (σ150 55 6).toInt = (σ 55 6).toInt := (congrArg Int32.toInt (show σ150 55 6 = (σ 55 6) from ((f153 6 (of_decide_eq_true rfl)).trans (congrFun (f54 55 (of_decide_eq_true rfl)) 6))))
               have z213 : (σ150 2 2).toInt = (σ52 2 2).toInt := (congrArg Int32.toInt (show σ150 2 2 = (σ52 2 2) from (congrFun (f152 2 (of_decide_eq_true rfl)) 2)))
               have z214 : (σ150 2 3).toInt = (σ52 2 3).toInt := (congrArg Int32.toInt (show σ150 2 3 = (σ52 2 3) from (congrFun (f152 2 (of_decide_eq_true rfl)) 3)))
               have z215 : (σ150 9 0).toInt = (σ 9 0).toInt := (congrArg Int32.toInt (show σ150 9 0 = (σ 9 0) from ((congrFun (f152 9 (of_decide_eq_true rfl)) 0).trans (congrFun (f54 9 (of_decide_eq_true rfl)) 0))))
               have z216 : (σ150 55 15).toInt = (σ 55 15).toInt := (congrArg Int32.toInt (show σ150 55 15 = (σ 55 15) from ((f153 15 (of_decide_eq_true rfl)).trans (congrFun (f54 55 (of_decide_eq_true rfl)) 15))))
               have z217 : (σ150 16 0).toInt = (σ 16 0).toInt := (congrArg Int32.toInt (show σ150 16 0 = (σ 16 0) from ((congrFun (f152 16 (of_decide_eq_true rfl)) 0).trans (congrFun (f54 16 (of_decide_eq_true rfl)) 0))))
               have z218 : (σ150 55 10).toInt = (σ 55 10).toInt := (congrArg Int32.toInt (show σ150 55 10 = (σ 55 10) from ((f153 10 (of_decide_eq_true rfl)).trans (congrFun (f54 55 (of_decide_eq_true rfl)) 10))))
               have z219 : (σ150 16 1).toInt = (σ 16 1).toInt := (congrArg Int32.toInt (show σ150 16 1 = (σ 16 1) from ((congrFun (f152 16 (of_decide_eq_true rfl)) 1).trans (congrFun (f54 16 (of_decide_eq_true rfl)) 1))))
               have z220 : (σ150 55 12).toInt = (σ 55 12).toInt := (congrArg Int32.toInt (show σ150 55 12 = (σ 55 12) from ((f153 12 (of_decide_eq_true rfl)).trans (congrFun (f54 55 (of_decide_eq_true rfl)) 12))))
               have z221 : (σ150 16 2).toInt = (σ 16 2).toInt := (congrArg Int32.toInt (show σ150 16 2 = (σ 16 2) from ((congrFun (f152 16 (of_decide_eq_true rfl)) 2).trans (congrFun (f54 16 (of_decide_eq_true rfl)) 2))))
               have z222 : (σ150 55 13).toInt = (σ 55 13).toInt := (congrArg Int32.toInt (show σ150 55 13 = (σ 55 13) from ((f153 13 (of_decide_eq_true rfl)).trans (congrFun (f54 55 (of_decide_eq_true rfl)) 13))))
               have z223 : (σ150 38 0).toInt = (σ 38 0).toInt := (congrArg Int32.toInt (show σ150 38 0 = (σ 38 0) from ((congrFun (f152 38 (of_decide_eq_true rfl)) 0).trans (congrFun (f54 38 (of_decide_eq_true rfl)) 0))))
               have z224 : (σ150 55 32).toInt = (σ 55 32).toInt := (congrArg Int32.toInt (show σ150 55 32 = (σ 55 32) from ((f153 32 (of_decide_eq_true rfl)).trans (congrFun (f54 55 (of_decide_eq_true rfl)) 32))))
               have z225 : (σ150 38 1).toInt = (σ 38 1).toInt := (congrArg Int32.toInt (show σ150 38 1 = (σ 38 1) from ((congrFun (f152 38 (of_decide_eq_true rfl)) 1).trans (congrFun (f54 38 (of_decide_eq_true rfl)) 1))))
               have z226 : (σ150 55 55).toInt = (σ 55 55).toInt := (congrArg Int32.toInt (show σ150 55 55 = (σ 55 55) from ((f153 55 (of_decide_eq_true rfl)).trans (congrFun (f54 55 (of_decide_eq_true rfl)) 55))))
               have z227 : (σ150 47 0).toInt = (σ 47 0).toInt := (congrArg Int32.toInt (show σ150 47 0 = (σ 47 0) from ((congrFun (f152 47 (of_decide_eq_true rfl)) 0).trans (congrFun (f54 47 (of_decide_eq_true rfl)) 0))))
               have z228 : (σ150 55 47).toInt = (σ 55 47).toInt := (congrArg Int32.toInt (show σ150 55 47 = (σ 55 47) from ((f153 47 (of_decide_eq_true rfl)).trans (congrFun (f54 55 (of_decide_eq_true rfl)) 47))))
               have z229 : (σ150 55 30).toInt = (σ 55 30).toInt := (congrArg Int32.toInt (show σ150 55 30 = (σ 55 30) from ((f153 30 (of_decide_eq_true rfl)).trans (congrFun (f54 55 (of_decide_eq_true rfl)) 30))))
               have z230 : (σ150 55 31).toInt = (σ 55 31).toInt := (congrArg Int32.toInt (show σ150 55 31 = (σ 55 31) from ((f153 31 (of_decide_eq_true rfl)).trans (congrFun (f54 55 (of_decide_eq_true rfl)) 31))))
               exact by exact ih x187 σ150 τ _ _ ls (by have h9 := tx187; omega) ⟨I188, I189, I190, I191, I192, I193, I194, I195, I196, I197, I198, I154, I199, I200, I201, I202, I203, I204, I205, I206, I207, I208, p209, p210, (by omega), (by omega), (by omega), (by omega), (by omega), (by omega), (by omega), (by omega), (by omega), (by omega), (by omega), (by omega), (show jNumP (σ150 3) (σ150 56) (σ150 6) (σ150 57) (σ150 7) (σ150 58) (σ150 8) (σ150 59) (σ150 55 6).toInt (σ150 55 4).toInt by rw [show σ150 3 = σ52 3 from (f152 3 (of_decide_eq_true rfl)), show σ150 6 = σ52 6 from (f152 6 (of_decide_eq_true rfl)), show σ150 7 = σ52 7 from (f152 7 (of_decide_eq_true rfl)), show σ150 8 = σ52 8 from (f152 8 (of_decide_eq_true rfl)), show (σ150 55 6).toInt = (σ 55 6).toInt from by omega]; exact k184.1), (hr1.chg c180 (by have h8 := p181.1; have h9 := p181.2.2; omega) (by omega) o186), (show jTp (σ150 10) (σ150 63) (σ150 55 15).toInt by rw [show σ150 10 = σ 10 from ((f152 10 (of_decide_eq_true rfl)).trans (f54 10 (of_decide_eq_true rfl))), show σ150 63 = σ 63 from ((f152 63 (of_decide_eq_true rfl)).trans (f54 63 (of_decide_eq_true rfl)))]; exact hr2.le (by omega)), (show jSo (σ150 17) (σ150 62) (σ150 16 0).toInt by rw [show σ150 17 = σ 17 from ((f152 17 (of_decide_eq_true rfl)).trans (f54 17 (of_decide_eq_true rfl))), show σ150 62 = σ 62 from ((f152 62 (of_decide_eq_true rfl)).trans (f54 62 (of_decide_eq_true rfl))), show (σ150 16 0).toInt = (σ 16 0).toInt from by omega]; exact hr3), (show jShP (σ150 51) (σ150 52) (σ150 53) (σ150 86) (σ150 87) (σ150 55 32).toInt by rw [show σ150 51 = σ 51 from ((f152 51 (of_decide_eq_true rfl)).trans (f54 51 (of_decide_eq_true rfl))), show σ150 52 = σ 52 from ((f152 52 (of_decide_eq_true rfl)).trans (f54 52 (of_decide_eq_true rfl))), show σ150 53 = σ 53 from ((f152 53 (of_decide_eq_true rfl)).trans (f54 53 (of_decide_eq_true rfl))), show σ150 86 = σ 86 from ((f152 86 (of_decide_eq_true rfl)).trans (f54 86 (of_decide_eq_true rfl))), show σ150 87 = σ 87 from ((f152 87 (of_decide_eq_true rfl)).trans (f54 87 (of_decide_eq_true rfl)))]; exact (hr4.up (by omega) (by omega))), (show jEl (σ150 51) (σ150 52) (τ 54) (τ 88) by rw [show σ150 51 = σ 51 from ((f152 51 (of_decide_eq_true rfl)).trans (f54 51 (of_decide_eq_true rfl))), show σ150 52 = σ 52 from ((f152 52 (of_decide_eq_true rfl)).trans (f54 52 (of_decide_eq_true rfl)))]; exact hr5), (show jByP (σ150 51) (σ150 52) (τ 54) by rw [show σ150 51 = σ 51 from ((f152 51 (of_decide_eq_true rfl)).trans (f54 51 (of_decide_eq_true rfl))), show σ150 52 = σ 52 from ((f152 52 (of_decide_eq_true rfl)).trans (f54 52 (of_decide_eq_true rfl)))]; exact hr6), (show jBk (σ150 48) (σ150 80) (σ150 49) (σ150 81) (σ150 55 47).toInt by rw [show σ150 48 = σ 48 from ((f152 48 (of_decide_eq_true rfl)).trans (f54 48 (of_decide_eq_true rfl))), show σ150 49 = σ 49 from ((f152 49 (of_decide_eq_true rfl)).trans (f54 49 (of_decide_eq_true rfl))), show σ150 80 = σ 80 from ((f152 80 (of_decide_eq_true rfl)).trans (f54 80 (of_decide_eq_true rfl))), show σ150 81 = σ 81 from ((f152 81 (of_decide_eq_true rfl)).trans (f54 81 (of_decide_eq_true rfl))), show (σ150 55 47).toInt = (σ 55 47).toInt from by omega]; exact hr7), (show jKd (σ150 39) (σ150 70) (σ150 55 32).toInt by rw [show σ150 39 = σ 39 from ((f152 39 (of_decide_eq_true rfl)).trans (f54 39 (of_decide_eq_true rfl))), show σ150 70 = σ 70 from ((f152 70 (of_decide_eq_true rfl)).trans (f54 70 (of_decide_eq_true rfl))), show (σ150 55 32).toInt = (σ 55 32).toInt from by omega]; exact hr8), (show jTt (σ150 42) (σ150 85) (σ150 55 55).toInt by rw [show σ150 42 = σ 42 from ((f152 42 (of_decide_eq_true rfl)).trans (f54 42 (of_decide_eq_true rfl))), show σ150 85 = σ 85 from ((f152 85 (of_decide_eq_true rfl)).trans (f54 85 (of_decide_eq_true rfl))), show (σ150 55 55).toInt = (σ 55 55).toInt from by omega]; exact hr9)⟩ hP hS (lv_sub hl [0, 1, 2, 3] rfl)
set_option maxHeartbeats 4000000 in
set_option maxRecDepth 100000 in
theorem law_case_3 {p : Program} {e : Env} {s : State} {m : MethodId} {below : List Frame} {meth : Method} {c : Code} (l : Launch) {b L : Nat} {xs : Nat → Int32} {D : va_G} {cI cL : ClassId} {ad zz : Nat → Nat} (C0 : lw_At p s m meth c b L xs) (hJ : jD ad) (hA : ∀ q, jA ad q → s.heap.size ≤ q) (hK : jK D cI cL s) (hZ : jZ zz (fun q : Nat => s.heap.size ≤ q) s s.heap) {x0 : Int32} (hx0 : 0 ≤ x0.toInt) (hxL : x0.toInt + 6 ≤ (L : Int)) (hL : L ≤ 384) {σ : Nat → Nat → Int32} {τ : Nat → Nat → Int64} {H : Heap} {locs : List Loc} (hS : va_S (fun q : Nat => s.heap.size ≤ q) s.heap H locs) {ls : Array Slot} (hAll : jAll σ τ) (hP : jH D cI cL ad σ τ H) (hl : lv_has ls 4 [(3, .int x0), (2, .ref (ad 55)), (1, .ref (ad 0)), (0, .ref b)]) (ih : ∀ (x1 : Int32) (σ : Nat → Nat → Int32) (τ : Nat → Nat → Int64) (H : Heap) (locs : List Loc) (ls : Array Slot), x1.toInt = x0.toInt + 6 → jAll σ τ → jH D cI cL ad σ τ H → va_S (fun q : Nat => s.heap.size ≤ q) s.heap H locs → lv_has ls 4 [(3, .int x1), (2, .ref (ad 55)), (1, .ref (ad 0)), (0, .ref b)] → W p l e room_1 s m #[Value.ref b] below meth c H locs 90 348600 (lw_Z below #[Value.ref b] s) (F0 m 18 ls [])) : W p l e room_1 s m #[Value.ref b] below meth c H locs 90 348600 (lw_Z below #[Value.ref b] s) (F0 m 325 ls []) := by
  obtain ⟨hx, hb, hr, hml, hown, hts0, hX, hbl, hlocks, hgv⟩ := C0
  have hts : ∀ w ∈ wsL_law, w.before #[Value.ref b] s = true := fun w h => hts0 w (wsL_law_in w h)
  have hbA : ¬ (fun q : Nat => s.heap.size ≤ q) b := Nat.not_le.mpr hbl
  have hown : s.vm.findClass RL = some m.cls := hown
  obtain ⟨hI2, hI9, hI12, hI16, hI18, hI22, hI31, hI38, hI43, hI47, hI50, hI101, hI102, hI103, hI104, hI105, hI106, hI107, hI109, hI110, hI111, hI119, hs_jKept, hs_jBook, ht0, ht1, ht2, ht3, ht4, ht5, ht6, ht7, ht8, ht9, ht10, ht11, hr0, hr1, hr2, hr3, hr4, hr5, hr6, hr7, hr8, hr9⟩ := hAll
  have hL9 : (L : Int) ≤ 384 := by omega
  obtain ⟨i1, i2, i3, i4, i5, w6⟩ : (0 ≤ (σ 2 0).toInt ∧ (σ 2 0).toInt ≤ 4) ∧ (0 ≤ (σ 2 1).toInt ∧ (σ 2 1).toInt ≤ 3) ∧ (0 ≤ (σ 2 2).toInt) ∧ (0 ≤ (σ 2 3).toInt) ∧ ((σ 2 2).toInt + (σ 2 3).toInt ≤ 40) ∧ (∀ k : Nat, k < 40 → 0 ≤ (σ 6 k).toInt ∧ (σ 6 k).toInt ≤ 67) := id hI2
  obtain ⟨i7, w8, w9⟩ : (0 ≤ (σ 9 0).toInt ∧ (σ 9 0).toInt ≤ 80) ∧ (∀ k : Nat, k < 80 → 0 ≤ (σ 10 k).toInt ∧ (σ 10 k).toInt ≤ 255) ∧ (∀ k : Nat, k < 8 → 0 ≤ (σ 11 k).toInt ∧ (σ 11 k).toInt ≤ 3) := id hI9
  obtain ⟨i10, i11, i12, w13⟩ : (1 ≤ (σ 16 0).toInt ∧ (σ 16 0).toInt ≤ 8) ∧ (1 ≤ (σ 16 1).toInt ∧ (σ 16 1).toInt ≤ 12) ∧ (0 ≤ (σ 16 2).toInt ∧ (σ 16 2).toInt ≤ 999) ∧ (∀ k : Nat, k < 8 → 0 ≤ (σ 17 k).toInt ∧ (σ 17 k).toInt ≤ 3) := id hI16
  obtain ⟨i14, i15, w16⟩ : (0 ≤ (σ 38 0).toInt ∧ (σ 38 0).toInt ≤ 20) ∧ (0 ≤ (σ 38 1).toInt ∧ (σ 38 1).toInt ≤ 1000) ∧ (∀ k : Nat, k < 20 → 0 ≤ (σ 39 k).toInt ∧ (σ 39 k).toInt ≤ 6) := id hI38
  obtain ⟨i17, w18, w19⟩ : (0 ≤ (σ 47 0).toInt ∧ (σ 47 0).toInt ≤ 12) ∧ (∀ k : Nat, k < 12 → 0 ≤ (σ 48 k).toInt ∧ (σ 48 k).toInt ≤ 3) ∧ (∀ k : Nat, k < 12 → 0 ≤ (σ 49 k).toInt ∧ (σ 49 k).toInt ≤ 1) := id hI47
  have w20 : ∀ k : Nat, k < 6 → 0 ≤ (σ 52 k).toInt ∧ (σ 52 k).toInt ≤ 60 := hI50
  obtain ⟨i21, i22, i23, w24, w25, w26, w27⟩ : (0 ≤ (σ 55 5).toInt) ∧ ((σ 55 5).toInt ≤ (σ 55 4).toInt) ∧ ((σ 55 4).toInt ≤ 40) ∧ (∀ k : Nat, k < 68 → (-200) ≤ (σ 56 k).toInt ∧ (σ 56 k).toInt ≤ 500) ∧ (∀ k : Nat, k < 40 → 0 ≤ (σ 57 k).toInt ∧ (σ 57 k).toInt ≤ 67) ∧ (∀ k : Nat, k < 40 → (-200) ≤ (σ 58 k).toInt ∧ (σ 58 k).toInt ≤ 500) ∧ (∀ k : Nat, k < 40 → (-200) ≤ (σ 59 k).toInt ∧ (σ 59 k).toInt ≤ 500) := id hI101
  obtain ⟨i28, w29, w30⟩ : (0 ≤ (σ 55 6).toInt ∧ (σ 55 6).toInt ≤ 4) ∧ (∀ k : Nat, k < 4 → 0 ≤ (σ 60 k).toInt ∧ (σ 60 k).toInt ≤ 50) ∧ (∀ k : Nat, k < 4 → 0 ≤ (σ 61 k).toInt ∧ (σ 61 k).toInt ≤ 20) := id hI102
  obtain ⟨i31, i32, i33, w34, w35⟩ : (1 ≤ (σ 55 10).toInt ∧ (σ 55 10).toInt ≤ 8) ∧ (1 ≤ (σ 55 12).toInt ∧ (σ 55 12).toInt ≤ 12) ∧ (0 ≤ (σ 55 13).toInt ∧ (σ 55 13).toInt ≤ 999) ∧ (∀ k : Nat, k < 8 → 0 ≤ (σ 62 k).toInt ∧ (σ 62 k).toInt ≤ 3) ∧ (∀ k : Nat, k < 8 → 0 ≤ (σ 67 k).toInt ∧ (σ 67 k).toInt ≤ 3) := id hI104
  obtain ⟨i36, w37⟩ : (0 ≤ (σ 55 15).toInt ∧ (σ 55 15).toInt ≤ 80) ∧ (∀ k : Nat, k < 2 → (-1) ≤ (σ 65 k).toInt ∧ (σ 65 k).toInt ≤ 80) := id hI105
  obtain ⟨i38, w39, w40, w41⟩ : (0 ≤ (σ 55 32).toInt ∧ (σ 55 32).toInt ≤ 20) ∧ (∀ k : Nat, k < 20 → 0 ≤ (σ 70 k).toInt ∧ (σ 70 k).toInt ≤ 6) ∧ (∀ k : Nat, k < 20 → 0 ≤ (σ 71 k).toInt ∧ (σ 71 k).toInt ≤ 8) ∧ (∀ k : Nat, k < 160 → 0 ≤ (σ 72 k).toInt ∧ (σ 72 k).toInt ≤ 3) := id hI106
  obtain ⟨i42, i43, w44⟩ : (0 ≤ (σ 55 47).toInt ∧ (σ 55 47).toInt ≤ 12) ∧ ((σ 55 47).toInt ≤ (σ 55 12).toInt) ∧ (∀ k : Nat, k < 12 → 0 ≤ (σ 80 k).toInt ∧ (σ 80 k).toInt ≤ 3) := id hI107
  refine lv_aload_n hx hb dL_law_325 rfl (lv_at hl 2 rfl) ?_
  refine lv_aload_n hx hb dL_law_326 rfl (lv_at hl 3 rfl) ?_
  refine lv_iload_n hx hb dL_law_327 rfl (lv_at hl 0 rfl) ?_
  refine lv_iconst (v := 1) hx hb dL_law_328 (of_decide_eq_true rfl) ?_
  have g45 := jrg (rfl : x0.toInt = x0.toInt)
  refine lv_iadd hx hb dL_law_329 ?_
  refine lv_topi (fun x46 ex46 => ?_)
  exact by
   have tx46 : x46.toInt = x0.toInt + 1 := (jadd ex46 rfl jz_1 (by omega) (by omega)).trans (by omega)
   refine va_sld hx hb hX hbl hbA hS (jin tx46 (by omega) (by omega)) dL_law_330 ?_
   have g47 := jrg (rfl : (xs x46.toNatClampNeg).toInt = (xs x46.toNatClampNeg).toInt)
   refine jcallV (As := [.int (xs x46.toNatClampNeg)]) (rest := []) ⟨hx, hb, hml, hown, hts⟩ hK hP hA hS hZ (c_X11_set l D cI cL ad zz hJ σ τ (xs x46.toNatClampNeg) ((xs x46.toNatClampNeg).toInt) rfl hI2) cw_RL_26 (jc_0 cI cL ad σ τ) rfl ⟨Nat.le_of_ble_eq_true rfl, Nat.le_of_ble_eq_true rfl⟩ rfl rfl rfl hl.1 rfl (Nat.le_of_ble_eq_true rfl) dL_law_331 ⟨Nat.le_of_ble_eq_true rfl, Nat.le_of_ble_eq_true rfl⟩ (fun r49 σ48 τ48 H locs h48 hP hS => ?_)
   obtain ⟨rfl, f50, f51, I52, h48⟩ := h48
   obtain ⟨i54, i55, i56, i57, i58, w59⟩ : (0 ≤ (σ48 2 0).toInt ∧ (σ48 2 0).toInt ≤ 4) ∧ (0 ≤ (σ48 2 1).toInt ∧ (σ48 2 1).toInt ≤ 3) ∧ (0 ≤ (σ48 2 2).toInt) ∧ (0 ≤ (σ48 2 3).toInt) ∧ ((σ48 2 2).toInt + (σ48 2 3).toInt ≤ 40) ∧ (∀ k : Nat, k < 40 → 0 ≤ (σ48 6 k).toInt ∧ (σ48 6 k).toInt ≤ 67) := id I52
   have z60 : (σ48 2 0).toInt = (σ 2 0).toInt := (congrArg Int32.toInt (show σ48 2 0 = (σ 2 0) from (f51 0 (of_decide_eq_true rfl))))
   have z61 : (σ48 2 2).toInt = (σ 2 2).toInt := (congrArg Int32.toInt (show σ48 2 2 = (σ 2 2) from (f51 2 (of_decide_eq_true rfl))))
   have z62 : (σ48 2 3).toInt = (σ 2 3).toInt := (congrArg Int32.toInt (show σ48 2 3 = (σ 2 3) from (f51 3 (of_decide_eq_true rfl))))
   exact by
    rcases h48 with h63 | h64
    · obtain ⟨q68, k65, k66, k67⟩ := h63
      refine lv_pop hx hb dL_law_334 rfl ?_
      refine lv_aload_n hx hb dL_law_335 rfl (lv_at hl 1 rfl) ?_
      refine lv_aload_n hx hb dL_law_336 rfl (lv_at hl 3 rfl) ?_
      refine lv_iload_n hx hb dL_law_337 rfl (lv_at hl 0 rfl) ?_
      refine lv_iconst (v := 1) hx hb dL_law_338 (of_decide_eq_true rfl) ?_
      refine lv_iadd hx hb dL_law_339 ?_
      refine jtopr ex46.symm ?_
      exact by
       refine va_sld hx hb hX hbl hbA hS (jin tx46 (by omega) (by omega)) dL_law_340 ?_
       have I69 : jI103 σ48 := jI103_fr (congrFun (f50 55 (of_decide_eq_true rfl)) 9) hI103
       have z70 : (σ48 55 9).toInt = (σ 55 9).toInt := (congrArg Int32.toInt (show σ48 55 9 = (σ 55 9) from (congrFun (f50 55 (of_decide_eq_true rfl)) 9)))
       refine jcallV (As := [.int (xs x46.toNatClampNeg)]) (rest := []) ⟨hx, hb, hml, hown, hts⟩ hK hP hA hS hZ (c_X12_set l D cI cL ad zz hJ σ48 τ (xs x46.toNatClampNeg) ((xs x46.toNatClampNeg).toInt) rfl I69) cw_RL_30 (jc_55 cI cL ad σ48 τ) rfl ⟨Nat.le_of_ble_eq_true rfl, Nat.le_of_ble_eq_true rfl⟩ rfl rfl rfl hl.1 rfl (Nat.le_of_ble_eq_true rfl) dL_law_341 ⟨Nat.le_of_ble_eq_true rfl, Nat.le_of_ble_eq_true rfl⟩ (fun r72 σ71 τ71 H locs h71 hP hS => ?_)
       obtain ⟨rfl, f73, f74, I75, h71⟩ := h71
       rcases h71 with h77 | h78
       · obtain ⟨q82, k79, k80, k81⟩ := h77
         refine lv_pop hx hb dL_law_344 rfl ?_
         refine lv_goto (tgt := 1357) hx hb dL_law_345 (of_decide_eq_true rfl) ?_
         obtain ⟨x83, ex83⟩ : ∃ y : Int32, y = x0 + 6 := ⟨_, rfl⟩
         exact by
          have tx83 : x83.toInt = x0.toInt + 6 := (jadd ex83 rfl jz_6 (by omega) (by omega)).trans (by omega)
          refine lv_iinc (v := x83) (lv' := [(3, .int x83), (2, .ref (ad 55)), (1, .ref (ad 0)), (0, .ref b)]) hx hb dL_law_1357 hl (k := 0) rfl (by rw [ex83]; rfl) (of_decide_eq_true rfl) rfl (fun ls hl => ?_)
          refine lv_goto (tgt := 18) hx hb dL_law_1360 (of_decide_eq_true rfl) ?_
          have I84 : jI2 σ71 := jI2_fr (congrFun (f73 2 (of_decide_eq_true rfl)) 0) (congrFun (f73 2 (of_decide_eq_true rfl)) 1) (congrFun (f73 2 (of_decide_eq_true rfl)) 2) (congrFun (f73 2 (of_decide_eq_true rfl)) 3) (f73 6 (of_decide_eq_true rfl)) I52
          have I85 : jI9 σ71 := jI9_fr ((congrFun (f73 9 (of_decide_eq_true rfl)) 0).trans (congrFun (f50 9 (of_decide_eq_true rfl)) 0)) ((f73 10 (of_decide_eq_true rfl)).trans (f50 10 (of_decide_eq_true rfl))) ((f73 11 (of_decide_eq_true rfl)).trans (f50 11 (of_decide_eq_true rfl))) hI9
          have I86 : jI12 σ71 := jI12_fr ((congrFun (f73 12 (of_decide_eq_true rfl)) 0).trans (congrFun (f50 12 (of_decide_eq_true rfl)) 0)) ((f73 13 (of_decide_eq_true rfl)).trans (f50 13 (of_decide_eq_true rfl))) hI12
          have I87 : jI16 σ71 := jI16_fr ((congrFun (f73 16 (of_decide_eq_true rfl)) 0).trans (congrFun (f50 16 (of_decide_eq_true rfl)) 0)) ((congrFun (f73 16 (of_decide_eq_true rfl)) 1).trans (congrFun (f50 16 (of_decide_eq_true rfl)) 1)) ((congrFun (f73 16 (of_decide_eq_true rfl)) 2).trans (congrFun (f50 16 (of_decide_eq_true rfl)) 2)) ((f73 17 (of_decide_eq_true rfl)).trans (f50 17 (of_decide_eq_true rfl))) hI16
          have I88 : jI18 σ71 := jI18_fr ((congrFun (f73 18 (of_decide_eq_true rfl)) 0).trans (congrFun (f50 18 (of_decide_eq_true rfl)) 0)) ((f73 19 (of_decide_eq_true rfl)).trans (f50 19 (of_decide_eq_true rfl))) hI18
          have I89 : jI22 σ71 := jI22_fr ((congrFun (f73 22 (of_decide_eq_true rfl)) 0).trans (congrFun (f50 22 (of_decide_eq_true rfl)) 0)) ((f73 23 (of_decide_eq_true rfl)).trans (f50 23 (of_decide_eq_true rfl))) hI22
          exact by
           have I90 : jI31 σ71 := jI31_fr ((congrFun (f73 31 (of_decide_eq_true rfl)) 8).trans (congrFun (f50 31 (of_decide_eq_true rfl)) 8)) ((f73 33 (of_decide_eq_true rfl)).trans (f50 33 (of_decide_eq_true rfl))) ((f73 36 (of_decide_eq_true rfl)).trans (f50 36 (of_decide_eq_true rfl))) hI31
           have I91 : jI38 σ71 := jI38_fr ((congrFun (f73 38 (of_decide_eq_true rfl)) 0).trans (congrFun (f50 38 (of_decide_eq_true rfl)) 0)) ((congrFun (f73 38 (of_decide_eq_true rfl)) 1).trans (congrFun (f50 38 (of_decide_eq_true rfl)) 1)) ((f73 39 (of_decide_eq_true rfl)).trans (f50 39 (of_decide_eq_true rfl))) hI38
           have I92 : jI43 σ71 := jI43_fr ((congrFun (f73 43 (of_decide_eq_true rfl)) 8).trans (congrFun (f50 43 (of_decide_eq_true rfl)) 8)) hI43
           have I93 : jI47 σ71 := jI47_fr ((congrFun (f73 47 (of_decide_eq_true rfl)) 0).trans (congrFun (f50 47 (of_decide_eq_true rfl)) 0)) ((f73 48 (of_decide_eq_true rfl)).trans (f50 48 (of_decide_eq_true rfl))) ((f73 49 (of_decide_eq_true rfl)).trans (f50 49 (of_decide_eq_true rfl))) hI47
           have I94 : jI50 σ71 := jI50_fr ((f73 52 (of_decide_eq_true rfl)).trans (f50 52 (of_decide_eq_true rfl))) hI50
           have I95 : jI101 σ71 := jI101_fr ((f74 4 (of_decide_eq_true rfl)).trans (congrFun (f50 55 (of_decide_eq_true rfl)) 4)) ((f74 5 (of_decide_eq_true rfl)).trans (congrFun (f50 55 (of_decide_eq_true rfl)) 5)) ((f73 56 (of_decide_eq_true rfl)).trans (f50 56 (of_decide_eq_true rfl))) ((f73 57 (of_decide_eq_true rfl)).trans (f50 57 (of_decide_eq_true rfl))) ((f73 58 (of_decide_eq_true rfl)).trans (f50 58 (of_decide_eq_true rfl))) ((f73 59 (of_decide_eq_true rfl)).trans (f50 59 (of_decide_eq_true rfl))) hI101
           have I96 : jI102 σ71 := jI102_fr ((f74 6 (of_decide_eq_true rfl)).trans (congrFun (f50 55 (of_decide_eq_true rfl)) 6)) ((f73 60 (of_decide_eq_true rfl)).trans (f50 60 (of_decide_eq_true rfl))) ((f73 61 (of_decide_eq_true rfl)).trans (f50 61 (of_decide_eq_true rfl))) hI102
           have I97 : jI104 σ71 := jI104_fr ((f74 10 (of_decide_eq_true rfl)).trans (congrFun (f50 55 (of_decide_eq_true rfl)) 10)) ((f74 12 (of_decide_eq_true rfl)).trans (congrFun (f50 55 (of_decide_eq_true rfl)) 12)) ((f74 13 (of_decide_eq_true rfl)).trans (congrFun (f50 55 (of_decide_eq_true rfl)) 13)) ((f73 62 (of_decide_eq_true rfl)).trans (f50 62 (of_decide_eq_true rfl))) ((f73 67 (of_decide_eq_true rfl)).trans (f50 67 (of_decide_eq_true rfl))) hI104
           have I98 : jI105 σ71 := jI105_fr ((f74 15 (of_decide_eq_true rfl)).trans (congrFun (f50 55 (of_decide_eq_true rfl)) 15)) ((f73 65 (of_decide_eq_true rfl)).trans (f50 65 (of_decide_eq_true rfl))) hI105
           have I99 : jI106 σ71 := jI106_fr ((f74 32 (of_decide_eq_true rfl)).trans (congrFun (f50 55 (of_decide_eq_true rfl)) 32)) ((f73 70 (of_decide_eq_true rfl)).trans (f50 70 (of_decide_eq_true rfl))) ((f73 71 (of_decide_eq_true rfl)).trans (f50 71 (of_decide_eq_true rfl))) ((f73 72 (of_decide_eq_true rfl)).trans (f50 72 (of_decide_eq_true rfl))) hI106
           have I100 : jI107 σ71 := jI107_fr ((f74 12 (of_decide_eq_true rfl)).trans (congrFun (f50 55 (of_decide_eq_true rfl)) 12)) ((f74 47 (of_decide_eq_true rfl)).trans (congrFun (f50 55 (of_decide_eq_true rfl)) 47)) ((f73 80 (of_decide_eq_true rfl)).trans (f50 80 (of_decide_eq_true rfl))) hI107
           have I101 : jI109 σ71 := jI109_fr ((f74 50 (of_decide_eq_true rfl)).trans (congrFun (f50 55 (of_decide_eq_true rfl)) 50)) hI109
           have I102 : jI110 σ71 := jI110_fr ((f73 86 (of_decide_eq_true rfl)).trans (f50 86 (of_decide_eq_true rfl))) ((f73 87 (of_decide_eq_true rfl)).trans (f50 87 (of_decide_eq_true rfl))) hI110
           have I103 : jI111 σ71 := jI111_fr ((f73 79 (of_decide_eq_true rfl)).trans (f50 79 (of_decide_eq_true rfl))) hI111
           have I104 : jI119 σ71 := jI119_fr ((f73 68 (of_decide_eq_true rfl)).trans (f50 68 (of_decide_eq_true rfl))) hI119
           have p105 : jKept σ71 := jKept.fr ((f73 75 (of_decide_eq_true rfl)).trans (f50 75 (of_decide_eq_true rfl))) ((f73 76 (of_decide_eq_true rfl)).trans (f50 76 (of_decide_eq_true rfl))) ((f73 77 (of_decide_eq_true rfl)).trans (f50 77 (of_decide_eq_true rfl))) hs_jKept
           have p106 : jBook σ71 := jBook.fr ((f74 47 (of_decide_eq_true rfl)).trans (congrFun (f50 55 (of_decide_eq_true rfl)) 47)) ((f74 10 (of_decide_eq_true rfl)).trans (congrFun (f50 55 (of_decide_eq_true rfl)) 10)) ((f73 81 (of_decide_eq_true rfl)).trans (f50 81 (of_decide_eq_true rfl))) hs_jBook
           have z107 : (σ71 2 0).toInt = (σ 2 0).toInt := (congrArg Int32.toInt (show σ71 2 0 = (σ 2 0) from ((congrFun (f73 2 (of_decide_eq_true rfl)) 0).trans (f51 0 (of_decide_eq_true rfl)))))
           have z108 : (σ71 55 6).toInt = (σ 55 6).toInt := (congrArg Int32.toInt (show σ71 55 6 = (σ 55 6) from ((f74 6 (of_decide_eq_true rfl)).trans (congrFun (f50 55 (of_decide_eq_true rfl)) 6))))
           have z109 : (σ71 2 2).toInt = (σ 2 2).toInt := (congrArg Int32.toInt (show σ71 2 2 = (σ 2 2) from ((congrFun (f73 2 (of_decide_eq_true rfl)) 2).trans (f51 2 (of_decide_eq_true rfl)))))
           have z110 : (σ71 55 5).toInt = (σ 55 5).toInt := (congrArg Int32.toInt (show σ71 55 5 = (σ 55 5) from ((f74 5 (of_decide_eq_true rfl)).trans (congrFun (f50 55 (of_decide_eq_true rfl)) 5))))
           have z111 : (σ71 2 3).toInt = (σ 2 3).toInt := (congrArg Int32.toInt (show σ71 2 3 = (σ 2 3) from ((congrFun (f73 2 (of_decide_eq_true rfl)) 3).trans (f51 3 (of_decide_eq_true rfl)))))
           have z112 : (σ71 55 4).toInt = (σ 55 4).toInt := (congrArg Int32.toInt (show σ71 55 4 = (σ 55 4) from ((f74 4 (of_decide_eq_true rfl)).trans (congrFun (f50 55 (of_decide_eq_true rfl)) 4))))
           have z113 : (σ71 9 0).toInt = (σ 9 0).toInt := (congrArg Int32.toInt (show σ71 9 0 = (σ 9 0) from ((congrFun (f73 9 (of_decide_eq_true rfl)) 0).trans (congrFun (f50 9 (of_decide_eq_true rfl)) 0))))
           have z114 : (σ71 55 15).toInt = (σ 55 15).toInt := (congrArg Int32.toInt (show σ71 55 15 = (σ 55 15) from ((f74 15 (of_decide_eq_true rfl)).trans (congrFun (f50 55 (of_decide_eq_true rfl)) 15))))
           have z115 : (σ71 16 0).toInt = (σ 16 0).toInt := (congrArg Int32.toInt (show σ71 16 0 = (σ 16 0) from ((congrFun (f73 16 (of_decide_eq_true rfl)) 0).trans (congrFun (f50 16 (of_decide_eq_true rfl)) 0))))
           have z116 : (σ71 55 10).toInt = (σ 55 10).toInt := (congrArg Int32.toInt (show σ71 55 10 = (σ 55 10) from ((f74 10 (of_decide_eq_true rfl)).trans (congrFun (f50 55 (of_decide_eq_true rfl)) 10))))
           have z117 : (σ71 16 1).toInt = (σ 16 1).toInt := (congrArg Int32.toInt (show σ71 16 1 = (σ 16 1) from ((congrFun (f73 16 (of_decide_eq_true rfl)) 1).trans (congrFun (f50 16 (of_decide_eq_true rfl)) 1))))
           have z118 : (σ71 55 12).toInt = (σ 55 12).toInt := (congrArg Int32.toInt (show σ71 55 12 = (σ 55 12) from ((f74 12 (of_decide_eq_true rfl)).trans (congrFun (f50 55 (of_decide_eq_true rfl)) 12))))
           have z119 : (σ71 16 2).toInt = (σ 16 2).toInt := (congrArg Int32.toInt (show σ71 16 2 = (σ 16 2) from ((congrFun (f73 16 (of_decide_eq_true rfl)) 2).trans (congrFun (f50 16 (of_decide_eq_true rfl)) 2))))
           have z120 : (σ71 55 13).toInt = (σ 55 13).toInt := (congrArg Int32.toInt (show σ71 55 13 = (σ 55 13) from ((f74 13 (of_decide_eq_true rfl)).trans (congrFun (f50 55 (of_decide_eq_true rfl)) 13))))
           have z121 : (σ71 38 0).toInt = (σ 38 0).toInt := (congrArg Int32.toInt (show σ71 38 0 = (σ 38 0) from ((congrFun (f73 38 (of_decide_eq_true rfl)) 0).trans (congrFun (f50 38 (of_decide_eq_true rfl)) 0))))
           have z122 : (σ71 55 32).toInt = (σ 55 32).toInt := (congrArg Int32.toInt (show σ71 55 32 = (σ 55 32) from ((f74 32 (of_decide_eq_true rfl)).trans (congrFun (f50 55 (of_decide_eq_true rfl)) 32))))
           have z123 : (σ71 38 1).toInt = (σ 38 1).toInt := (congrArg Int32.toInt (show σ71 38 1 = (σ 38 1) from ((congrFun (f73 38 (of_decide_eq_true rfl)) 1).trans (congrFun (f50 38 (of_decide_eq_true rfl)) 1))))
           have z124 : (σ71 55 55).toInt = (σ 55 55).toInt := (congrArg Int32.toInt (show σ71 55 55 = (σ 55 55) from ((f74 55 (of_decide_eq_true rfl)).trans (congrFun (f50 55 (of_decide_eq_true rfl)) 55))))
           have z125 : (σ71 47 0).toInt = (σ 47 0).toInt := (congrArg Int32.toInt (show σ71 47 0 = (σ 47 0) from ((congrFun (f73 47 (of_decide_eq_true rfl)) 0).trans (congrFun (f50 47 (of_decide_eq_true rfl)) 0))))
           have z126 : (σ71 55 47).toInt = (σ 55 47).toInt := (congrArg Int32.toInt (show σ71 55 47 = (σ 55 47) from ((f74 47 (of_decide_eq_true rfl)).trans (congrFun (f50 55 (of_decide_eq_true rfl)) 47))))
           have z127 : (σ71 55 30).toInt = (σ 55 30).toInt := (congrArg Int32.toInt (show σ71 55 30 = (σ 55 30) from ((f74 30 (of_decide_eq_true rfl)).trans (congrFun (f50 55 (of_decide_eq_true rfl)) 30))))
           have z128 : (σ71 55 31).toInt = (σ 55 31).toInt := (congrArg Int32.toInt (show σ71 55 31 = (σ 55 31) from ((f74 31 (of_decide_eq_true rfl)).trans (congrFun (f50 55 (of_decide_eq_true rfl)) 31))))
           exact by exact ih x83 σ71 τ _ _ ls (by have h9 := tx83; omega) ⟨I84, I85, I86, I87, I88, I89, I90, I91, I92, I93, I94, I95, I96, I75, I97, I98, I99, I100, I101, I102, I103, I104, p105, p106, (by omega), (by omega), (by omega), (by omega), (by omega), (by omega), (by omega), (by omega), (by omega), (by omega), (by omega), (by omega), (show jNumP (σ71 3) (σ71 56) (σ71 6) (σ71 57) (σ71 7) (σ71 58) (σ71 8) (σ71 59) (σ71 55 6).toInt (σ71 55 4).toInt by rw [show σ71 3 = σ 3 from ((f73 3 (of_decide_eq_true rfl)).trans (f50 3 (of_decide_eq_true rfl))), show σ71 56 = σ 56 from ((f73 56 (of_decide_eq_true rfl)).trans (f50 56 (of_decide_eq_true rfl))), show σ71 6 = σ 6 from ((f73 6 (of_decide_eq_true rfl)).trans (f50 6 (of_decide_eq_true rfl))), show σ71 57 = σ 57 from ((f73 57 (of_decide_eq_true rfl)).trans (f50 57 (of_decide_eq_true rfl))), show σ71 7 = σ 7 from ((f73 7 (of_decide_eq_true rfl)).trans (f50 7 (of_decide_eq_true rfl))), show σ71 58 = σ 58 from ((f73 58 (of_decide_eq_true rfl)).trans (f50 58 (of_decide_eq_true rfl))), show σ71 8 = σ 8 from ((f73 8 (of_decide_eq_true rfl)).trans (f50 8 (of_decide_eq_true rfl))), show σ71 59 = σ 59 from ((f73 59 (of_decide_eq_true rfl)).trans (f50 59 (of_decide_eq_true rfl))), show (σ71 55 6).toInt = (σ 55 6).toInt from by omega, show (σ71 55 4).toInt = (σ 55 4).toInt from by omega]; exact hr0), (show jOvP (σ71 56) (σ71 57) (σ71 58) (σ71 59) (σ71 55 4).toInt by rw [show σ71 56 = σ 56 from ((f73 56 (of_decide_eq_true rfl)).trans (f50 56 (of_decide_eq_true rfl))), show σ71 57 = σ 57 from ((f73 57 (of_decide_eq_true rfl)).trans (f50 57 (of_decide_eq_true rfl))), show σ71 58 = σ 58 from ((f73 58 (of_decide_eq_true rfl)).trans (f50 58 (of_decide_eq_true rfl))), show σ71 59 = σ 59 from ((f73 59 (of_decide_eq_true rfl)).trans (f50 59 (of_decide_eq_true rfl))), show (σ71 55 4).toInt = (σ 55 4).toInt from by omega]; exact hr1), (show jTp (σ71 10) (σ71 63) (σ71 55 15).toInt by rw [show σ71 10 = σ 10 from ((f73 10 (of_decide_eq_true rfl)).trans (f50 10 (of_decide_eq_true rfl))), show σ71 63 = σ 63 from ((f73 63 (of_decide_eq_true rfl)).trans (f50 63 (of_decide_eq_true rfl)))]; exact hr2.le (by omega)), (show jSo (σ71 17) (σ71 62) (σ71 16 0).toInt by rw [show σ71 17 = σ 17 from ((f73 17 (of_decide_eq_true rfl)).trans (f50 17 (of_decide_eq_true rfl))), show σ71 62 = σ 62 from ((f73 62 (of_decide_eq_true rfl)).trans (f50 62 (of_decide_eq_true rfl))), show (σ71 16 0).toInt = (σ 16 0).toInt from by omega]; exact hr3), (show jShP (σ71 51) (σ71 52) (σ71 53) (σ71 86) (σ71 87) (σ71 55 32).toInt by rw [show σ71 51 = σ 51 from ((f73 51 (of_decide_eq_true rfl)).trans (f50 51 (of_decide_eq_true rfl))), show σ71 52 = σ 52 from ((f73 52 (of_decide_eq_true rfl)).trans (f50 52 (of_decide_eq_true rfl))), show σ71 53 = σ 53 from ((f73 53 (of_decide_eq_true rfl)).trans (f50 53 (of_decide_eq_true rfl))), show σ71 86 = σ 86 from ((f73 86 (of_decide_eq_true rfl)).trans (f50 86 (of_decide_eq_true rfl))), show σ71 87 = σ 87 from ((f73 87 (of_decide_eq_true rfl)).trans (f50 87 (of_decide_eq_true rfl)))]; exact (hr4.up (by omega) (by omega))), (show jEl (σ71 51) (σ71 52) (τ 54) (τ 88) by rw [show σ71 51 = σ 51 from ((f73 51 (of_decide_eq_true rfl)).trans (f50 51 (of_decide_eq_true rfl))), show σ71 52 = σ 52 from ((f73 52 (of_decide_eq_true rfl)).trans (f50 52 (of_decide_eq_true rfl)))]; exact hr5), (show jByP (σ71 51) (σ71 52) (τ 54) by rw [show σ71 51 = σ 51 from ((f73 51 (of_decide_eq_true rfl)).trans (f50 51 (of_decide_eq_true rfl))), show σ71 52 = σ 52 from ((f73 52 (of_decide_eq_true rfl)).trans (f50 52 (of_decide_eq_true rfl)))]; exact hr6), (show jBk (σ71 48) (σ71 80) (σ71 49) (σ71 81) (σ71 55 47).toInt by rw [show σ71 48 = σ 48 from ((f73 48 (of_decide_eq_true rfl)).trans (f50 48 (of_decide_eq_true rfl))), show σ71 49 = σ 49 from ((f73 49 (of_decide_eq_true rfl)).trans (f50 49 (of_decide_eq_true rfl))), show σ71 80 = σ 80 from ((f73 80 (of_decide_eq_true rfl)).trans (f50 80 (of_decide_eq_true rfl))), show σ71 81 = σ 81 from ((f73 81 (of_decide_eq_true rfl)).trans (f50 81 (of_decide_eq_true rfl))), show (σ71 55 47).toInt = (σ 55 47).toInt from by omega]; exact hr7), (show jKd (σ71 39) (σ71 70) (σ71 55 32).toInt by rw [show σ71 39 = σ 39 from ((f73 39 (of_decide_eq_true rfl)).trans (f50 39 (of_decide_eq_true rfl))), show σ71 70 = σ 70 from ((f73 70 (of_decide_eq_true rfl)).trans (f50 70 (of_decide_eq_true rfl))), show (σ71 55 32).toInt = (σ 55 32).toInt from by omega]; exact hr8), (show jTt (σ71 42) (σ71 85) (σ71 55 55).toInt by rw [show σ71 42 = σ 42 from ((f73 42 (of_decide_eq_true rfl)).trans (f50 42 (of_decide_eq_true rfl))), show σ71 85 = σ 85 from ((f73 85 (of_decide_eq_true rfl)).trans (f50 85 (of_decide_eq_true rfl))), show (σ71 55 55).toInt = (σ 55 55).toInt from by omega]; exact hr9)⟩ hP hS (lv_sub hl [0, 1, 2, 3] rfl)
       · obtain ⟨q132, k130, k131⟩ := h78
         exact absurd (by omega : False) id
    · obtain ⟨q135, k133, k134⟩ := h64
      have q135 := q135.symm
      subst q135
      refine lv_pop hx hb dL_law_334 rfl ?_
      refine lv_aload_n hx hb dL_law_335 rfl (lv_at hl 1 rfl) ?_
      refine lv_aload_n hx hb dL_law_336 rfl (lv_at hl 3 rfl) ?_
      refine lv_iload_n hx hb dL_law_337 rfl (lv_at hl 0 rfl) ?_
      refine lv_iconst (v := 1) hx hb dL_law_338 (of_decide_eq_true rfl) ?_
      refine lv_iadd hx hb dL_law_339 ?_
      refine jtopr ex46.symm ?_
      exact by
       refine va_sld hx hb hX hbl hbA hS (jin tx46 (by omega) (by omega)) dL_law_340 ?_
       have I136 : jI103 σ48 := jI103_fr (congrFun (f50 55 (of_decide_eq_true rfl)) 9) hI103
       have z137 : (σ48 55 9).toInt = (σ 55 9).toInt := (congrArg Int32.toInt (show σ48 55 9 = (σ 55 9) from (congrFun (f50 55 (of_decide_eq_true rfl)) 9)))
       refine jcallV (As := [.int (xs x46.toNatClampNeg)]) (rest := []) ⟨hx, hb, hml, hown, hts⟩ hK hP hA hS hZ (c_X12_set l D cI cL ad zz hJ σ48 τ (xs x46.toNatClampNeg) ((xs x46.toNatClampNeg).toInt) rfl I136) cw_RL_30 (jc_55 cI cL ad σ48 τ) rfl ⟨Nat.le_of_ble_eq_true rfl, Nat.le_of_ble_eq_true rfl⟩ rfl rfl rfl hl.1 rfl (Nat.le_of_ble_eq_true rfl) dL_law_341 ⟨Nat.le_of_ble_eq_true rfl, Nat.le_of_ble_eq_true rfl⟩ (fun r139 σ138 τ138 H locs h138 hP hS => ?_)
       obtain ⟨rfl, f140, f141, I142, h138⟩ := h138
       rcases h138 with h144 | h145
       · obtain ⟨q149, k146, k147, k148⟩ := h144
         exact absurd (by omega : False) id
       · obtain ⟨q152, k150, k151⟩ := h145
         have q152 := q152.symm
         subst q152
         refine lv_pop hx hb dL_law_344 rfl ?_
         refine lv_goto (tgt := 1357) hx hb dL_law_345 (of_decide_eq_true rfl) ?_
         obtain ⟨x153, ex153⟩ : ∃ y : Int32, y = x0 + 6 := ⟨_, rfl⟩
         exact by
          have tx153 : x153.toInt = x0.toInt + 6 := (jadd ex153 rfl jz_6 (by omega) (by omega)).trans (by omega)
          refine lv_iinc (v := x153) (lv' := [(3, .int x153), (2, .ref (ad 55)), (1, .ref (ad 0)), (0, .ref b)]) hx hb dL_law_1357 hl (k := 0) rfl (by rw [ex153]; rfl) (of_decide_eq_true rfl) rfl (fun ls hl => ?_)
          refine lv_goto (tgt := 18) hx hb dL_law_1360 (of_decide_eq_true rfl) ?_
          have I154 : jI2 σ138 := jI2_fr (congrFun (f140 2 (of_decide_eq_true rfl)) 0) (congrFun (f140 2 (of_decide_eq_true rfl)) 1) (congrFun (f140 2 (of_decide_eq_true rfl)) 2) (congrFun (f140 2 (of_decide_eq_true rfl)) 3) (f140 6 (of_decide_eq_true rfl)) I52
          have I155 : jI9 σ138 := jI9_fr ((congrFun (f140 9 (of_decide_eq_true rfl)) 0).trans (congrFun (f50 9 (of_decide_eq_true rfl)) 0)) ((f140 10 (of_decide_eq_true rfl)).trans (f50 10 (of_decide_eq_true rfl))) ((f140 11 (of_decide_eq_true rfl)).trans (f50 11 (of_decide_eq_true rfl))) hI9
          have I156 : jI12 σ138 := jI12_fr ((congrFun (f140 12 (of_decide_eq_true rfl)) 0).trans (congrFun (f50 12 (of_decide_eq_true rfl)) 0)) ((f140 13 (of_decide_eq_true rfl)).trans (f50 13 (of_decide_eq_true rfl))) hI12
          have I157 : jI16 σ138 := jI16_fr ((congrFun (f140 16 (of_decide_eq_true rfl)) 0).trans (congrFun (f50 16 (of_decide_eq_true rfl)) 0)) ((congrFun (f140 16 (of_decide_eq_true rfl)) 1).trans (congrFun (f50 16 (of_decide_eq_true rfl)) 1)) ((congrFun (f140 16 (of_decide_eq_true rfl)) 2).trans (congrFun (f50 16 (of_decide_eq_true rfl)) 2)) ((f140 17 (of_decide_eq_true rfl)).trans (f50 17 (of_decide_eq_true rfl))) hI16
          have I158 : jI18 σ138 := jI18_fr ((congrFun (f140 18 (of_decide_eq_true rfl)) 0).trans (congrFun (f50 18 (of_decide_eq_true rfl)) 0)) ((f140 19 (of_decide_eq_true rfl)).trans (f50 19 (of_decide_eq_true rfl))) hI18
          have I159 : jI22 σ138 := jI22_fr ((congrFun (f140 22 (of_decide_eq_true rfl)) 0).trans (congrFun (f50 22 (of_decide_eq_true rfl)) 0)) ((f140 23 (of_decide_eq_true rfl)).trans (f50 23 (of_decide_eq_true rfl))) hI22
          exact by
           have I160 : jI31 σ138 := jI31_fr ((congrFun (f140 31 (of_decide_eq_true rfl)) 8).trans (congrFun (f50 31 (of_decide_eq_true rfl)) 8)) ((f140 33 (of_decide_eq_true rfl)).trans (f50 33 (of_decide_eq_true rfl))) ((f140 36 (of_decide_eq_true rfl)).trans (f50 36 (of_decide_eq_true rfl))) hI31
           have I161 : jI38 σ138 := jI38_fr ((congrFun (f140 38 (of_decide_eq_true rfl)) 0).trans (congrFun (f50 38 (of_decide_eq_true rfl)) 0)) ((congrFun (f140 38 (of_decide_eq_true rfl)) 1).trans (congrFun (f50 38 (of_decide_eq_true rfl)) 1)) ((f140 39 (of_decide_eq_true rfl)).trans (f50 39 (of_decide_eq_true rfl))) hI38
           have I162 : jI43 σ138 := jI43_fr ((congrFun (f140 43 (of_decide_eq_true rfl)) 8).trans (congrFun (f50 43 (of_decide_eq_true rfl)) 8)) hI43
           have I163 : jI47 σ138 := jI47_fr ((congrFun (f140 47 (of_decide_eq_true rfl)) 0).trans (congrFun (f50 47 (of_decide_eq_true rfl)) 0)) ((f140 48 (of_decide_eq_true rfl)).trans (f50 48 (of_decide_eq_true rfl))) ((f140 49 (of_decide_eq_true rfl)).trans (f50 49 (of_decide_eq_true rfl))) hI47
           have I164 : jI50 σ138 := jI50_fr ((f140 52 (of_decide_eq_true rfl)).trans (f50 52 (of_decide_eq_true rfl))) hI50
           have I165 : jI101 σ138 := jI101_fr ((f141 4 (of_decide_eq_true rfl)).trans (congrFun (f50 55 (of_decide_eq_true rfl)) 4)) ((f141 5 (of_decide_eq_true rfl)).trans (congrFun (f50 55 (of_decide_eq_true rfl)) 5)) ((f140 56 (of_decide_eq_true rfl)).trans (f50 56 (of_decide_eq_true rfl))) ((f140 57 (of_decide_eq_true rfl)).trans (f50 57 (of_decide_eq_true rfl))) ((f140 58 (of_decide_eq_true rfl)).trans (f50 58 (of_decide_eq_true rfl))) ((f140 59 (of_decide_eq_true rfl)).trans (f50 59 (of_decide_eq_true rfl))) hI101
           have I166 : jI102 σ138 := jI102_fr ((f141 6 (of_decide_eq_true rfl)).trans (congrFun (f50 55 (of_decide_eq_true rfl)) 6)) ((f140 60 (of_decide_eq_true rfl)).trans (f50 60 (of_decide_eq_true rfl))) ((f140 61 (of_decide_eq_true rfl)).trans (f50 61 (of_decide_eq_true rfl))) hI102
           have I167 : jI104 σ138 := jI104_fr ((f141 10 (of_decide_eq_true rfl)).trans (congrFun (f50 55 (of_decide_eq_true rfl)) 10)) ((f141 12 (of_decide_eq_true rfl)).trans (congrFun (f50 55 (of_decide_eq_true rfl)) 12)) ((f141 13 (of_decide_eq_true rfl)).trans (congrFun (f50 55 (of_decide_eq_true rfl)) 13)) ((f140 62 (of_decide_eq_true rfl)).trans (f50 62 (of_decide_eq_true rfl))) ((f140 67 (of_decide_eq_true rfl)).trans (f50 67 (of_decide_eq_true rfl))) hI104
           have I168 : jI105 σ138 := jI105_fr ((f141 15 (of_decide_eq_true rfl)).trans (congrFun (f50 55 (of_decide_eq_true rfl)) 15)) ((f140 65 (of_decide_eq_true rfl)).trans (f50 65 (of_decide_eq_true rfl))) hI105
           have I169 : jI106 σ138 := jI106_fr ((f141 32 (of_decide_eq_true rfl)).trans (congrFun (f50 55 (of_decide_eq_true rfl)) 32)) ((f140 70 (of_decide_eq_true rfl)).trans (f50 70 (of_decide_eq_true rfl))) ((f140 71 (of_decide_eq_true rfl)).trans (f50 71 (of_decide_eq_true rfl))) ((f140 72 (of_decide_eq_true rfl)).trans (f50 72 (of_decide_eq_true rfl))) hI106
           have I170 : jI107 σ138 := jI107_fr ((f141 12 (of_decide_eq_true rfl)).trans (congrFun (f50 55 (of_decide_eq_true rfl)) 12)) ((f141 47 (of_decide_eq_true rfl)).trans (congrFun (f50 55 (of_decide_eq_true rfl)) 47)) ((f140 80 (of_decide_eq_true rfl)).trans (f50 80 (of_decide_eq_true rfl))) hI107
           have I171 : jI109 σ138 := jI109_fr ((f141 50 (of_decide_eq_true rfl)).trans (congrFun (f50 55 (of_decide_eq_true rfl)) 50)) hI109
           have I172 : jI110 σ138 := jI110_fr ((f140 86 (of_decide_eq_true rfl)).trans (f50 86 (of_decide_eq_true rfl))) ((f140 87 (of_decide_eq_true rfl)).trans (f50 87 (of_decide_eq_true rfl))) hI110
           have I173 : jI111 σ138 := jI111_fr ((f140 79 (of_decide_eq_true rfl)).trans (f50 79 (of_decide_eq_true rfl))) hI111
           have I174 : jI119 σ138 := jI119_fr ((f140 68 (of_decide_eq_true rfl)).trans (f50 68 (of_decide_eq_true rfl))) hI119
           have p175 : jKept σ138 := jKept.fr ((f140 75 (of_decide_eq_true rfl)).trans (f50 75 (of_decide_eq_true rfl))) ((f140 76 (of_decide_eq_true rfl)).trans (f50 76 (of_decide_eq_true rfl))) ((f140 77 (of_decide_eq_true rfl)).trans (f50 77 (of_decide_eq_true rfl))) hs_jKept
           have p176 : jBook σ138 := jBook.fr ((f141 47 (of_decide_eq_true rfl)).trans (congrFun (f50 55 (of_decide_eq_true rfl)) 47)) ((f141 10 (of_decide_eq_true rfl)).trans (congrFun (f50 55 (of_decide_eq_true rfl)) 10)) ((f140 81 (of_decide_eq_true rfl)).trans (f50 81 (of_decide_eq_true rfl))) hs_jBook
           have z177 : (σ138 2 0).toInt = (σ 2 0).toInt := (congrArg Int32.toInt (show σ138 2 0 = (σ 2 0) from ((congrFun (f140 2 (of_decide_eq_true rfl)) 0).trans (f51 0 (of_decide_eq_true rfl)))))
           have z178 : (σ138 55 6).toInt = (σ 55 6).toInt := (congrArg Int32.toInt (show σ138 55 6 = (σ 55 6) from ((f141 6 (of_decide_eq_true rfl)).trans (congrFun (f50 55 (of_decide_eq_true rfl)) 6))))
           have z179 : (σ138 2 2).toInt = (σ 2 2).toInt := (congrArg Int32.toInt (show σ138 2 2 = (σ 2 2) from ((congrFun (f140 2 (of_decide_eq_true rfl)) 2).trans (f51 2 (of_decide_eq_true rfl)))))
           have z180 : (σ138 55 5).toInt = (σ 55 5).toInt := (congrArg Int32.toInt (show σ138 55 5 = (σ 55 5) from ((f141 5 (of_decide_eq_true rfl)).trans (congrFun (f50 55 (of_decide_eq_true rfl)) 5))))
           have z181 : (σ138 2 3).toInt = (σ 2 3).toInt := (congrArg Int32.toInt (show σ138 2 3 = (σ 2 3) from ((congrFun (f140 2 (of_decide_eq_true rfl)) 3).trans (f51 3 (of_decide_eq_true rfl)))))
           have z182 : (σ138 55 4).toInt = (σ 55 4).toInt := (congrArg Int32.toInt (show σ138 55 4 = (σ 55 4) from ((f141 4 (of_decide_eq_true rfl)).trans (congrFun (f50 55 (of_decide_eq_true rfl)) 4))))
           have z183 : (σ138 9 0).toInt = (σ 9 0).toInt := (congrArg Int32.toInt (show σ138 9 0 = (σ 9 0) from ((congrFun (f140 9 (of_decide_eq_true rfl)) 0).trans (congrFun (f50 9 (of_decide_eq_true rfl)) 0))))
           have z184 : (σ138 55 15).toInt = (σ 55 15).toInt := (congrArg Int32.toInt (show σ138 55 15 = (σ 55 15) from ((f141 15 (of_decide_eq_true rfl)).trans (congrFun (f50 55 (of_decide_eq_true rfl)) 15))))
           have z185 : (σ138 16 0).toInt = (σ 16 0).toInt := (congrArg Int32.toInt (show σ138 16 0 = (σ 16 0) from ((congrFun (f140 16 (of_decide_eq_true rfl)) 0).trans (congrFun (f50 16 (of_decide_eq_true rfl)) 0))))
           have z186 : (σ138 55 10).toInt = (σ 55 10).toInt := (congrArg Int32.toInt (show σ138 55 10 = (σ 55 10) from ((f141 10 (of_decide_eq_true rfl)).trans (congrFun (f50 55 (of_decide_eq_true rfl)) 10))))
           have z187 : (σ138 16 1).toInt = (σ 16 1).toInt := (congrArg Int32.toInt (show σ138 16 1 = (σ 16 1) from ((congrFun (f140 16 (of_decide_eq_true rfl)) 1).trans (congrFun (f50 16 (of_decide_eq_true rfl)) 1))))
           have z188 : (σ138 55 12).toInt = (σ 55 12).toInt := (congrArg Int32.toInt (show σ138 55 12 = (σ 55 12) from ((f141 12 (of_decide_eq_true rfl)).trans (congrFun (f50 55 (of_decide_eq_true rfl)) 12))))
           have z189 : (σ138 16 2).toInt = (σ 16 2).toInt := (congrArg Int32.toInt (show σ138 16 2 = (σ 16 2) from ((congrFun (f140 16 (of_decide_eq_true rfl)) 2).trans (congrFun (f50 16 (of_decide_eq_true rfl)) 2))))
           have z190 : (σ138 55 13).toInt = (σ 55 13).toInt := (congrArg Int32.toInt (show σ138 55 13 = (σ 55 13) from ((f141 13 (of_decide_eq_true rfl)).trans (congrFun (f50 55 (of_decide_eq_true rfl)) 13))))
           have z191 : (σ138 38 0).toInt = (σ 38 0).toInt := (congrArg Int32.toInt (show σ138 38 0 = (σ 38 0) from ((congrFun (f140 38 (of_decide_eq_true rfl)) 0).trans (congrFun (f50 38 (of_decide_eq_true rfl)) 0))))
           have z192 : (σ138 55 32).toInt = (σ 55 32).toInt := (congrArg Int32.toInt (show σ138 55 32 = (σ 55 32) from ((f141 32 (of_decide_eq_true rfl)).trans (congrFun (f50 55 (of_decide_eq_true rfl)) 32))))
           have z193 : (σ138 38 1).toInt = (σ 38 1).toInt := (congrArg Int32.toInt (show σ138 38 1 = (σ 38 1) from ((congrFun (f140 38 (of_decide_eq_true rfl)) 1).trans (congrFun (f50 38 (of_decide_eq_true rfl)) 1))))
           have z194 : (σ138 55 55).toInt = (σ 55 55).toInt := (congrArg Int32.toInt (show σ138 55 55 = (σ 55 55) from ((f141 55 (of_decide_eq_true rfl)).trans (congrFun (f50 55 (of_decide_eq_true rfl)) 55))))
           have z195 : (σ138 47 0).toInt = (σ 47 0).toInt := (congrArg Int32.toInt (show σ138 47 0 = (σ 47 0) from ((congrFun (f140 47 (of_decide_eq_true rfl)) 0).trans (congrFun (f50 47 (of_decide_eq_true rfl)) 0))))
           have z196 : (σ138 55 47).toInt = (σ 55 47).toInt := (congrArg Int32.toInt (show σ138 55 47 = (σ 55 47) from ((f141 47 (of_decide_eq_true rfl)).trans (congrFun (f50 55 (of_decide_eq_true rfl)) 47))))
           have z197 : (σ138 55 30).toInt = (σ 55 30).toInt := (congrArg Int32.toInt (show σ138 55 30 = (σ 55 30) from ((f141 30 (of_decide_eq_true rfl)).trans (congrFun (f50 55 (of_decide_eq_true rfl)) 30))))
           have z198 : (σ138 55 31).toInt = (σ 55 31).toInt := (congrArg Int32.toInt (show σ138 55 31 = (σ 55 31) from ((f141 31 (of_decide_eq_true rfl)).trans (congrFun (f50 55 (of_decide_eq_true rfl)) 31))))
           exact by exact ih x153 σ138 τ _ _ ls (by have h9 := tx153; omega) ⟨I154, I155, I156, I157, I158, I159, I160, I161, I162, I163, I164, I165, I166, I142, I167, I168, I169, I170, I171, I172, I173, I174, p175, p176, (by omega), (by omega), (by omega), (by omega), (by omega), (by omega), (by omega), (by omega), (by omega), (by omega), (by omega), (by omega), (show jNumP (σ138 3) (σ138 56) (σ138 6) (σ138 57) (σ138 7) (σ138 58) (σ138 8) (σ138 59) (σ138 55 6).toInt (σ138 55 4).toInt by rw [show σ138 3 = σ 3 from ((f140 3 (of_decide_eq_true rfl)).trans (f50 3 (of_decide_eq_true rfl))), show σ138 56 = σ 56 from ((f140 56 (of_decide_eq_true rfl)).trans (f50 56 (of_decide_eq_true rfl))), show σ138 6 = σ 6 from ((f140 6 (of_decide_eq_true rfl)).trans (f50 6 (of_decide_eq_true rfl))), show σ138 57 = σ 57 from ((f140 57 (of_decide_eq_true rfl)).trans (f50 57 (of_decide_eq_true rfl))), show σ138 7 = σ 7 from ((f140 7 (of_decide_eq_true rfl)).trans (f50 7 (of_decide_eq_true rfl))), show σ138 58 = σ 58 from ((f140 58 (of_decide_eq_true rfl)).trans (f50 58 (of_decide_eq_true rfl))), show σ138 8 = σ 8 from ((f140 8 (of_decide_eq_true rfl)).trans (f50 8 (of_decide_eq_true rfl))), show σ138 59 = σ 59 from ((f140 59 (of_decide_eq_true rfl)).trans (f50 59 (of_decide_eq_true rfl))), show (σ138 55 6).toInt = (σ 55 6).toInt from by omega, show (σ138 55 4).toInt = (σ 55 4).toInt from by omega]; exact hr0), (show jOvP (σ138 56) (σ138 57) (σ138 58) (σ138 59) (σ138 55 4).toInt by rw [show σ138 56 = σ 56 from ((f140 56 (of_decide_eq_true rfl)).trans (f50 56 (of_decide_eq_true rfl))), show σ138 57 = σ 57 from ((f140 57 (of_decide_eq_true rfl)).trans (f50 57 (of_decide_eq_true rfl))), show σ138 58 = σ 58 from ((f140 58 (of_decide_eq_true rfl)).trans (f50 58 (of_decide_eq_true rfl))), show σ138 59 = σ 59 from ((f140 59 (of_decide_eq_true rfl)).trans (f50 59 (of_decide_eq_true rfl))), show (σ138 55 4).toInt = (σ 55 4).toInt from by omega]; exact hr1), (show jTp (σ138 10) (σ138 63) (σ138 55 15).toInt by rw [show σ138 10 = σ 10 from ((f140 10 (of_decide_eq_true rfl)).trans (f50 10 (of_decide_eq_true rfl))), show σ138 63 = σ 63 from ((f140 63 (of_decide_eq_true rfl)).trans (f50 63 (of_decide_eq_true rfl)))]; exact hr2.le (by omega)), (show jSo (σ138 17) (σ138 62) (σ138 16 0).toInt by rw [show σ138 17 = σ 17 from ((f140 17 (of_decide_eq_true rfl)).trans (f50 17 (of_decide_eq_true rfl))), show σ138 62 = σ 62 from ((f140 62 (of_decide_eq_true rfl)).trans (f50 62 (of_decide_eq_true rfl))), show (σ138 16 0).toInt = (σ 16 0).toInt from by omega]; exact hr3), (show jShP (σ138 51) (σ138 52) (σ138 53) (σ138 86) (σ138 87) (σ138 55 32).toInt by rw [show σ138 51 = σ 51 from ((f140 51 (of_decide_eq_true rfl)).trans (f50 51 (of_decide_eq_true rfl))), show σ138 52 = σ 52 from ((f140 52 (of_decide_eq_true rfl)).trans (f50 52 (of_decide_eq_true rfl))), show σ138 53 = σ 53 from ((f140 53 (of_decide_eq_true rfl)).trans (f50 53 (of_decide_eq_true rfl))), show σ138 86 = σ 86 from ((f140 86 (of_decide_eq_true rfl)).trans (f50 86 (of_decide_eq_true rfl))), show σ138 87 = σ 87 from ((f140 87 (of_decide_eq_true rfl)).trans (f50 87 (of_decide_eq_true rfl)))]; exact (hr4.up (by omega) (by omega))), (show jEl (σ138 51) (σ138 52) (τ 54) (τ 88) by rw [show σ138 51 = σ 51 from ((f140 51 (of_decide_eq_true rfl)).trans (f50 51 (of_decide_eq_true rfl))), show σ138 52 = σ 52 from ((f140 52 (of_decide_eq_true rfl)).trans (f50 52 (of_decide_eq_true rfl)))]; exact hr5), (show jByP (σ138 51) (σ138 52) (τ 54) by rw [show σ138 51 = σ 51 from ((f140 51 (of_decide_eq_true rfl)).trans (f50 51 (of_decide_eq_true rfl))), show σ138 52 = σ 52 from ((f140 52 (of_decide_eq_true rfl)).trans (f50 52 (of_decide_eq_true rfl)))]; exact hr6), (show jBk (σ138 48) (σ138 80) (σ138 49) (σ138 81) (σ138 55 47).toInt by rw [show σ138 48 = σ 48 from ((f140 48 (of_decide_eq_true rfl)).trans (f50 48 (of_decide_eq_true rfl))), show σ138 49 = σ 49 from ((f140 49 (of_decide_eq_true rfl)).trans (f50 49 (of_decide_eq_true rfl))), show σ138 80 = σ 80 from ((f140 80 (of_decide_eq_true rfl)).trans (f50 80 (of_decide_eq_true rfl))), show σ138 81 = σ 81 from ((f140 81 (of_decide_eq_true rfl)).trans (f50 81 (of_decide_eq_true rfl))), show (σ138 55 47).toInt = (σ 55 47).toInt from by omega]; exact hr7), (show jKd (σ138 39) (σ138 70) (σ138 55 32).toInt by rw [show σ138 39 = σ 39 from ((f140 39 (of_decide_eq_true rfl)).trans (f50 39 (of_decide_eq_true rfl))), show σ138 70 = σ 70 from ((f140 70 (of_decide_eq_true rfl)).trans (f50 70 (of_decide_eq_true rfl))), show (σ138 55 32).toInt = (σ 55 32).toInt from by omega]; exact hr8), (show jTt (σ138 42) (σ138 85) (σ138 55 55).toInt by rw [show σ138 42 = σ 42 from ((f140 42 (of_decide_eq_true rfl)).trans (f50 42 (of_decide_eq_true rfl))), show σ138 85 = σ 85 from ((f140 85 (of_decide_eq_true rfl)).trans (f50 85 (of_decide_eq_true rfl))), show (σ138 55 55).toInt = (σ 55 55).toInt from by omega]; exact hr9)⟩ hP hS (lv_sub hl [0, 1, 2, 3] rfl)
set_option maxHeartbeats 4000000 in
set_option maxRecDepth 100000 in
theorem law_case_4 {p : Program} {e : Env} {s : State} {m : MethodId} {below : List Frame} {meth : Method} {c : Code} (l : Launch) {b L : Nat} {xs : Nat → Int32} {D : va_G} {cI cL : ClassId} {ad zz : Nat → Nat} (C0 : lw_At p s m meth c b L xs) (hJ : jD ad) (hA : ∀ q, jA ad q → s.heap.size ≤ q) (hK : jK D cI cL s) (hZ : jZ zz (fun q : Nat => s.heap.size ≤ q) s s.heap) {x0 : Int32} (hx0 : 0 ≤ x0.toInt) (hxL : x0.toInt + 6 ≤ (L : Int)) (hL : L ≤ 384) {σ : Nat → Nat → Int32} {τ : Nat → Nat → Int64} {H : Heap} {locs : List Loc} (hS : va_S (fun q : Nat => s.heap.size ≤ q) s.heap H locs) {ls : Array Slot} (hAll : jAll σ τ) (hP : jH D cI cL ad σ τ H) (hl : lv_has ls 4 [(3, .int x0), (2, .ref (ad 55)), (1, .ref (ad 0)), (0, .ref b)]) (ih : ∀ (x1 : Int32) (σ : Nat → Nat → Int32) (τ : Nat → Nat → Int64) (H : Heap) (locs : List Loc) (ls : Array Slot), x1.toInt = x0.toInt + 6 → jAll σ τ → jH D cI cL ad σ τ H → va_S (fun q : Nat => s.heap.size ≤ q) s.heap H locs → lv_has ls 4 [(3, .int x1), (2, .ref (ad 55)), (1, .ref (ad 0)), (0, .ref b)] → W p l e room_1 s m #[Value.ref b] below meth c H locs 90 348600 (lw_Z below #[Value.ref b] s) (F0 m 18 ls [])) : W p l e room_1 s m #[Value.ref b] below meth c H locs 90 348600 (lw_Z below #[Value.ref b] s) (F0 m 348 ls []) := by
  obtain ⟨hx, hb, hr, hml, hown, hts0, hX, hbl, hlocks, hgv⟩ := C0
  have hts : ∀ w ∈ wsL_law, w.before #[Value.ref b] s = true := fun w h => hts0 w (wsL_law_in w h)
  have hbA : ¬ (fun q : Nat => s.heap.size ≤ q) b := Nat.not_le.mpr hbl
  have hown : s.vm.findClass RL = some m.cls := hown
  obtain ⟨hI2, hI9, hI12, hI16, hI18, hI22, hI31, hI38, hI43, hI47, hI50, hI101, hI102, hI103, hI104, hI105, hI106, hI107, hI109, hI110, hI111, hI119, hs_jKept, hs_jBook, ht0, ht1, ht2, ht3, ht4, ht5, ht6, ht7, ht8, ht9, ht10, ht11, hr0, hr1, hr2, hr3, hr4, hr5, hr6, hr7, hr8, hr9⟩ := hAll
  have hL9 : (L : Int) ≤ 384 := by omega
  obtain ⟨i1, i2, i3, i4, i5, w6⟩ : (0 ≤ (σ 2 0).toInt ∧ (σ 2 0).toInt ≤ 4) ∧ (0 ≤ (σ 2 1).toInt ∧ (σ 2 1).toInt ≤ 3) ∧ (0 ≤ (σ 2 2).toInt) ∧ (0 ≤ (σ 2 3).toInt) ∧ ((σ 2 2).toInt + (σ 2 3).toInt ≤ 40) ∧ (∀ k : Nat, k < 40 → 0 ≤ (σ 6 k).toInt ∧ (σ 6 k).toInt ≤ 67) := id hI2
  obtain ⟨i7, w8, w9⟩ : (0 ≤ (σ 9 0).toInt ∧ (σ 9 0).toInt ≤ 80) ∧ (∀ k : Nat, k < 80 → 0 ≤ (σ 10 k).toInt ∧ (σ 10 k).toInt ≤ 255) ∧ (∀ k : Nat, k < 8 → 0 ≤ (σ 11 k).toInt ∧ (σ 11 k).toInt ≤ 3) := id hI9
  obtain ⟨i10, i11, i12, w13⟩ : (1 ≤ (σ 16 0).toInt ∧ (σ 16 0).toInt ≤ 8) ∧ (1 ≤ (σ 16 1).toInt ∧ (σ 16 1).toInt ≤ 12) ∧ (0 ≤ (σ 16 2).toInt ∧ (σ 16 2).toInt ≤ 999) ∧ (∀ k : Nat, k < 8 → 0 ≤ (σ 17 k).toInt ∧ (σ 17 k).toInt ≤ 3) := id hI16
  obtain ⟨i14, i15, w16⟩ : (0 ≤ (σ 38 0).toInt ∧ (σ 38 0).toInt ≤ 20) ∧ (0 ≤ (σ 38 1).toInt ∧ (σ 38 1).toInt ≤ 1000) ∧ (∀ k : Nat, k < 20 → 0 ≤ (σ 39 k).toInt ∧ (σ 39 k).toInt ≤ 6) := id hI38
  obtain ⟨i17, w18, w19⟩ : (0 ≤ (σ 47 0).toInt ∧ (σ 47 0).toInt ≤ 12) ∧ (∀ k : Nat, k < 12 → 0 ≤ (σ 48 k).toInt ∧ (σ 48 k).toInt ≤ 3) ∧ (∀ k : Nat, k < 12 → 0 ≤ (σ 49 k).toInt ∧ (σ 49 k).toInt ≤ 1) := id hI47
  have w20 : ∀ k : Nat, k < 6 → 0 ≤ (σ 52 k).toInt ∧ (σ 52 k).toInt ≤ 60 := hI50
  obtain ⟨i21, i22, i23, w24, w25, w26, w27⟩ : (0 ≤ (σ 55 5).toInt) ∧ ((σ 55 5).toInt ≤ (σ 55 4).toInt) ∧ ((σ 55 4).toInt ≤ 40) ∧ (∀ k : Nat, k < 68 → (-200) ≤ (σ 56 k).toInt ∧ (σ 56 k).toInt ≤ 500) ∧ (∀ k : Nat, k < 40 → 0 ≤ (σ 57 k).toInt ∧ (σ 57 k).toInt ≤ 67) ∧ (∀ k : Nat, k < 40 → (-200) ≤ (σ 58 k).toInt ∧ (σ 58 k).toInt ≤ 500) ∧ (∀ k : Nat, k < 40 → (-200) ≤ (σ 59 k).toInt ∧ (σ 59 k).toInt ≤ 500) := id hI101
  obtain ⟨i28, w29, w30⟩ : (0 ≤ (σ 55 6).toInt ∧ (σ 55 6).toInt ≤ 4) ∧ (∀ k : Nat, k < 4 → 0 ≤ (σ 60 k).toInt ∧ (σ 60 k).toInt ≤ 50) ∧ (∀ k : Nat, k < 4 → 0 ≤ (σ 61 k).toInt ∧ (σ 61 k).toInt ≤ 20) := id hI102
  obtain ⟨i31, i32, i33, w34, w35⟩ : (1 ≤ (σ 55 10).toInt ∧ (σ 55 10).toInt ≤ 8) ∧ (1 ≤ (σ 55 12).toInt ∧ (σ 55 12).toInt ≤ 12) ∧ (0 ≤ (σ 55 13).toInt ∧ (σ 55 13).toInt ≤ 999) ∧ (∀ k : Nat, k < 8 → 0 ≤ (σ 62 k).toInt ∧ (σ 62 k).toInt ≤ 3) ∧ (∀ k : Nat, k < 8 → 0 ≤ (σ 67 k).toInt ∧ (σ 67 k).toInt ≤ 3) := id hI104
  obtain ⟨i36, w37⟩ : (0 ≤ (σ 55 15).toInt ∧ (σ 55 15).toInt ≤ 80) ∧ (∀ k : Nat, k < 2 → (-1) ≤ (σ 65 k).toInt ∧ (σ 65 k).toInt ≤ 80) := id hI105
  obtain ⟨i38, w39, w40, w41⟩ : (0 ≤ (σ 55 32).toInt ∧ (σ 55 32).toInt ≤ 20) ∧ (∀ k : Nat, k < 20 → 0 ≤ (σ 70 k).toInt ∧ (σ 70 k).toInt ≤ 6) ∧ (∀ k : Nat, k < 20 → 0 ≤ (σ 71 k).toInt ∧ (σ 71 k).toInt ≤ 8) ∧ (∀ k : Nat, k < 160 → 0 ≤ (σ 72 k).toInt ∧ (σ 72 k).toInt ≤ 3) := id hI106
  obtain ⟨i42, i43, w44⟩ : (0 ≤ (σ 55 47).toInt ∧ (σ 55 47).toInt ≤ 12) ∧ ((σ 55 47).toInt ≤ (σ 55 12).toInt) ∧ (∀ k : Nat, k < 12 → 0 ≤ (σ 80 k).toInt ∧ (σ 80 k).toInt ≤ 3) := id hI107
  refine lv_aload_n hx hb dL_law_348 rfl (lv_at hl 2 rfl) ?_
  refine lv_aload_n hx hb dL_law_349 rfl (lv_at hl 3 rfl) ?_
  refine lv_iload_n hx hb dL_law_350 rfl (lv_at hl 0 rfl) ?_
  refine lv_iconst (v := 1) hx hb dL_law_351 (of_decide_eq_true rfl) ?_
  have g45 := jrg (rfl : x0.toInt = x0.toInt)
  refine lv_iadd hx hb dL_law_352 ?_
  refine lv_topi (fun x46 ex46 => ?_)
  exact by
   have tx46 : x46.toInt = x0.toInt + 1 := (jadd ex46 rfl jz_1 (by omega) (by omega)).trans (by omega)
   refine va_sld hx hb hX hbl hbA hS (jin tx46 (by omega) (by omega)) dL_law_353 ?_
   have g47 := jrg (rfl : (xs x46.toNatClampNeg).toInt = (xs x46.toNatClampNeg).toInt)
   refine lv_aload_n hx hb dL_law_354 rfl (lv_at hl 3 rfl) ?_
   refine lv_iload_n hx hb dL_law_355 rfl (lv_at hl 0 rfl) ?_
   refine lv_iconst (v := 2) hx hb dL_law_356 (of_decide_eq_true rfl) ?_
   refine lv_iadd hx hb dL_law_357 ?_
   refine lv_topi (fun x48 ex48 => ?_)
   have tx48 : x48.toInt = x0.toInt + 2 := (jadd ex48 rfl jz_2 (by omega) (by omega)).trans (by omega)
   exact by
    refine va_sld hx hb hX hbl hbA hS (jin tx48 (by omega) (by omega)) dL_law_358 ?_
    have g49 := jrg (rfl : (xs x48.toNatClampNeg).toInt = (xs x48.toNatClampNeg).toInt)
    refine jcallV (As := [.int (xs x46.toNatClampNeg), .int (xs x48.toNatClampNeg)]) (rest := []) ⟨hx, hb, hml, hown, hts⟩ hK hP hA hS hZ (c_X11_feed l D cI cL ad zz hJ σ τ (xs x46.toNatClampNeg) ((xs x46.toNatClampNeg).toInt) rfl (xs x48.toNatClampNeg) ((xs x48.toNatClampNeg).toInt) rfl hI9) cw_RL_31 (jc_0 cI cL ad σ τ) rfl ⟨Nat.le_of_ble_eq_true rfl, Nat.le_of_ble_eq_true rfl⟩ rfl rfl rfl hl.1 rfl (Nat.le_of_ble_eq_true rfl) dL_law_359 ⟨Nat.le_of_ble_eq_true rfl, Nat.le_of_ble_eq_true rfl⟩ (fun r51 σ50 τ50 H locs h50 hP hS => ?_)
    obtain ⟨rfl, f52, f53, I54, h50⟩ := h50
    obtain ⟨i56, w57, w58⟩ : (0 ≤ (σ50 9 0).toInt ∧ (σ50 9 0).toInt ≤ 80) ∧ (∀ k : Nat, k < 80 → 0 ≤ (σ50 10 k).toInt ∧ (σ50 10 k).toInt ≤ 255) ∧ (∀ k : Nat, k < 8 → 0 ≤ (σ50 11 k).toInt ∧ (σ50 11 k).toInt ≤ 3) := id I54
    rcases h50 with h59 | h60 | h61
    · obtain ⟨q65, k62, k63, k64⟩ := h59
      have q65 := q65.symm
      subst q65
      refine lv_pop hx hb dL_law_362 rfl ?_
      refine lv_aload_n hx hb dL_law_363 rfl (lv_at hl 1 rfl) ?_
      refine lv_aload_n hx hb dL_law_364 rfl (lv_at hl 3 rfl) ?_
      refine lv_iload_n hx hb dL_law_365 rfl (lv_at hl 0 rfl) ?_
      refine lv_iconst (v := 1) hx hb dL_law_366 (of_decide_eq_true rfl) ?_
      refine lv_iadd hx hb dL_law_367 ?_
      refine jtopr ex46.symm ?_
      exact by
       refine va_sld hx hb hX hbl hbA hS (jin tx46 (by omega) (by omega)) dL_law_368 ?_
       refine lv_aload_n hx hb dL_law_369 rfl (lv_at hl 3 rfl) ?_
       refine lv_iload_n hx hb dL_law_370 rfl (lv_at hl 0 rfl) ?_
       refine lv_iconst (v := 2) hx hb dL_law_371 (of_decide_eq_true rfl) ?_
       refine lv_iadd hx hb dL_law_372 ?_
       refine jtopr ex48.symm ?_
       refine va_sld hx hb hX hbl hbA hS (jin tx48 (by omega) (by omega)) dL_law_373 ?_
       have I66 : jI105 σ50 := jI105_fr (congrFun (f52 55 (of_decide_eq_true rfl)) 15) (f52 65 (of_decide_eq_true rfl)) hI105
       have z67 : (σ50 55 15).toInt = (σ 55 15).toInt := (congrArg Int32.toInt (show σ50 55 15 = (σ 55 15) from (congrFun (f52 55 (of_decide_eq_true rfl)) 15)))
       exact by
        refine jcallV (As := [.int (xs x46.toNatClampNeg), .int (xs x48.toNatClampNeg)]) (rest := []) ⟨hx, hb, hml, hown, hts⟩ hK hP hA hS hZ (c_X12_feed l D cI cL ad zz hJ σ50 τ (xs x46.toNatClampNeg) ((xs x46.toNatClampNeg).toInt) rfl (xs x48.toNatClampNeg) ((xs x48.toNatClampNeg).toInt) rfl I66) cw_RL_35 (jc_55 cI cL ad σ50 τ) rfl ⟨Nat.le_of_ble_eq_true rfl, Nat.le_of_ble_eq_true rfl⟩ rfl rfl rfl hl.1 rfl (Nat.le_of_ble_eq_true rfl) dL_law_374 ⟨Nat.le_of_ble_eq_true rfl, Nat.le_of_ble_eq_true rfl⟩ (fun r69 σ68 τ68 H locs h68 hP hS => ?_)
        obtain ⟨rfl, f70, f71, I72, h68⟩ := h68
        obtain ⟨i74, w75⟩ : (0 ≤ (σ68 55 15).toInt ∧ (σ68 55 15).toInt ≤ 80) ∧ (∀ k : Nat, k < 2 → (-1) ≤ (σ68 65 k).toInt ∧ (σ68 65 k).toInt ≤ 80) := id I72
        rcases h68 with h76 | h77 | h78
        · obtain ⟨q82, k79, k80, k81⟩ := h76
          have q82 := q82.symm
          subst q82
          refine lv_pop hx hb dL_law_377 rfl ?_
          refine lv_goto (tgt := 1357) hx hb dL_law_378 (of_decide_eq_true rfl) ?_
          obtain ⟨x83, ex83⟩ : ∃ y : Int32, y = x0 + 6 := ⟨_, rfl⟩
          exact by
           have tx83 : x83.toInt = x0.toInt + 6 := (jadd ex83 rfl jz_6 (by omega) (by omega)).trans (by omega)
           refine lv_iinc (v := x83) (lv' := [(3, .int x83), (2, .ref (ad 55)), (1, .ref (ad 0)), (0, .ref b)]) hx hb dL_law_1357 hl (k := 0) rfl (by rw [ex83]; rfl) (of_decide_eq_true rfl) rfl (fun ls hl => ?_)
           refine lv_goto (tgt := 18) hx hb dL_law_1360 (of_decide_eq_true rfl) ?_
           have I84 : jI2 σ68 := jI2_fr ((congrFun (f70 2 (of_decide_eq_true rfl)) 0).trans (congrFun (f52 2 (of_decide_eq_true rfl)) 0)) ((congrFun (f70 2 (of_decide_eq_true rfl)) 1).trans (congrFun (f52 2 (of_decide_eq_true rfl)) 1)) ((congrFun (f70 2 (of_decide_eq_true rfl)) 2).trans (congrFun (f52 2 (of_decide_eq_true rfl)) 2)) ((congrFun (f70 2 (of_decide_eq_true rfl)) 3).trans (congrFun (f52 2 (of_decide_eq_true rfl)) 3)) ((f70 6 (of_decide_eq_true rfl)).trans (f52 6 (of_decide_eq_true rfl))) hI2
           have I85 : jI9 σ68 := jI9_fr (congrFun (f70 9 (of_decide_eq_true rfl)) 0) (f70 10 (of_decide_eq_true rfl)) (f70 11 (of_decide_eq_true rfl)) I54
           have I86 : jI12 σ68 := jI12_fr ((congrFun (f70 12 (of_decide_eq_true rfl)) 0).trans (congrFun (f52 12 (of_decide_eq_true rfl)) 0)) ((f70 13 (of_decide_eq_true rfl)).trans (f52 13 (of_decide_eq_true rfl))) hI12
           have I87 : jI16 σ68 := jI16_fr ((congrFun (f70 16 (of_decide_eq_true rfl)) 0).trans (congrFun (f52 16 (of_decide_eq_true rfl)) 0)) ((congrFun (f70 16 (of_decide_eq_true rfl)) 1).trans (congrFun (f52 16 (of_decide_eq_true rfl)) 1)) ((congrFun (f70 16 (of_decide_eq_true rfl)) 2).trans (congrFun (f52 16 (of_decide_eq_true rfl)) 2)) ((f70 17 (of_decide_eq_true rfl)).trans (f52 17 (of_decide_eq_true rfl))) hI16
           have I88 : jI18 σ68 := jI18_fr ((congrFun (f70 18 (of_decide_eq_true rfl)) 0).trans (congrFun (f52 18 (of_decide_eq_true rfl)) 0)) ((f70 19 (of_decide_eq_true rfl)).trans (f52 19 (of_decide_eq_true rfl))) hI18
           have I89 : jI22 σ68 := jI22_fr ((congrFun (f70 22 (of_decide_eq_true rfl)) 0).trans (congrFun (f52 22 (of_decide_eq_true rfl)) 0)) ((f70 23 (of_decide_eq_true rfl)).trans (f52 23 (of_decide_eq_true rfl))) hI22
           exact by
            have I90 : jI31 σ68 := jI31_fr ((congrFun (f70 31 (of_decide_eq_true rfl)) 8).trans (congrFun (f52 31 (of_decide_eq_true rfl)) 8)) ((f70 33 (of_decide_eq_true rfl)).trans (f52 33 (of_decide_eq_true rfl))) ((f70 36 (of_decide_eq_true rfl)).trans (f52 36 (of_decide_eq_true rfl))) hI31
            have I91 : jI38 σ68 := jI38_fr ((congrFun (f70 38 (of_decide_eq_true rfl)) 0).trans (congrFun (f52 38 (of_decide_eq_true rfl)) 0)) ((congrFun (f70 38 (of_decide_eq_true rfl)) 1).trans (congrFun (f52 38 (of_decide_eq_true rfl)) 1)) ((f70 39 (of_decide_eq_true rfl)).trans (f52 39 (of_decide_eq_true rfl))) hI38
            have I92 : jI43 σ68 := jI43_fr ((congrFun (f70 43 (of_decide_eq_true rfl)) 8).trans (congrFun (f52 43 (of_decide_eq_true rfl)) 8)) hI43
            have I93 : jI47 σ68 := jI47_fr ((congrFun (f70 47 (of_decide_eq_true rfl)) 0).trans (congrFun (f52 47 (of_decide_eq_true rfl)) 0)) ((f70 48 (of_decide_eq_true rfl)).trans (f52 48 (of_decide_eq_true rfl))) ((f70 49 (of_decide_eq_true rfl)).trans (f52 49 (of_decide_eq_true rfl))) hI47
            have I94 : jI50 σ68 := jI50_fr ((f70 52 (of_decide_eq_true rfl)).trans (f52 52 (of_decide_eq_true rfl))) hI50
            have I95 : jI101 σ68 := jI101_fr ((f71 4 (of_decide_eq_true rfl)).trans (congrFun (f52 55 (of_decide_eq_true rfl)) 4)) ((f71 5 (of_decide_eq_true rfl)).trans (congrFun (f52 55 (of_decide_eq_true rfl)) 5)) ((f70 56 (of_decide_eq_true rfl)).trans (f52 56 (of_decide_eq_true rfl))) ((f70 57 (of_decide_eq_true rfl)).trans (f52 57 (of_decide_eq_true rfl))) ((f70 58 (of_decide_eq_true rfl)).trans (f52 58 (of_decide_eq_true rfl))) ((f70 59 (of_decide_eq_true rfl)).trans (f52 59 (of_decide_eq_true rfl))) hI101
            have I96 : jI102 σ68 := jI102_fr ((f71 6 (of_decide_eq_true rfl)).trans (congrFun (f52 55 (of_decide_eq_true rfl)) 6)) ((f70 60 (of_decide_eq_true rfl)).trans (f52 60 (of_decide_eq_true rfl))) ((f70 61 (of_decide_eq_true rfl)).trans (f52 61 (of_decide_eq_true rfl))) hI102
            have I97 : jI103 σ68 := jI103_fr ((f71 9 (of_decide_eq_true rfl)).trans (congrFun (f52 55 (of_decide_eq_true rfl)) 9)) hI103
            have I98 : jI104 σ68 := jI104_fr ((f71 10 (of_decide_eq_true rfl)).trans (congrFun (f52 55 (of_decide_eq_true rfl)) 10)) ((f71 12 (of_decide_eq_true rfl)).trans (congrFun (f52 55 (of_decide_eq_true rfl)) 12)) ((f71 13 (of_decide_eq_true rfl)).trans (congrFun (f52 55 (of_decide_eq_true rfl)) 13)) ((f70 62 (of_decide_eq_true rfl)).trans (f52 62 (of_decide_eq_true rfl))) ((f70 67 (of_decide_eq_true rfl)).trans (f52 67 (of_decide_eq_true rfl))) hI104
            have I99 : jI106 σ68 := jI106_fr ((f71 32 (of_decide_eq_true rfl)).trans (congrFun (f52 55 (of_decide_eq_true rfl)) 32)) ((f70 70 (of_decide_eq_true rfl)).trans (f52 70 (of_decide_eq_true rfl))) ((f70 71 (of_decide_eq_true rfl)).trans (f52 71 (of_decide_eq_true rfl))) ((f70 72 (of_decide_eq_true rfl)).trans (f52 72 (of_decide_eq_true rfl))) hI106
            have I100 : jI107 σ68 := jI107_fr ((f71 12 (of_decide_eq_true rfl)).trans (congrFun (f52 55 (of_decide_eq_true rfl)) 12)) ((f71 47 (of_decide_eq_true rfl)).trans (congrFun (f52 55 (of_decide_eq_true rfl)) 47)) ((f70 80 (of_decide_eq_true rfl)).trans (f52 80 (of_decide_eq_true rfl))) hI107
            have I101 : jI109 σ68 := jI109_fr ((f71 50 (of_decide_eq_true rfl)).trans (congrFun (f52 55 (of_decide_eq_true rfl)) 50)) hI109
            have I102 : jI110 σ68 := jI110_fr ((f70 86 (of_decide_eq_true rfl)).trans (f52 86 (of_decide_eq_true rfl))) ((f70 87 (of_decide_eq_true rfl)).trans (f52 87 (of_decide_eq_true rfl))) hI110
            have I103 : jI111 σ68 := jI111_fr ((f70 79 (of_decide_eq_true rfl)).trans (f52 79 (of_decide_eq_true rfl))) hI111
            have I104 : jI119 σ68 := jI119_fr ((f70 68 (of_decide_eq_true rfl)).trans (f52 68 (of_decide_eq_true rfl))) hI119
            have p105 : jKept σ68 := jKept.fr ((f70 75 (of_decide_eq_true rfl)).trans (f52 75 (of_decide_eq_true rfl))) ((f70 76 (of_decide_eq_true rfl)).trans (f52 76 (of_decide_eq_true rfl))) ((f70 77 (of_decide_eq_true rfl)).trans (f52 77 (of_decide_eq_true rfl))) hs_jKept
            have p106 : jBook σ68 := jBook.fr ((f71 47 (of_decide_eq_true rfl)).trans (congrFun (f52 55 (of_decide_eq_true rfl)) 47)) ((f71 10 (of_decide_eq_true rfl)).trans (congrFun (f52 55 (of_decide_eq_true rfl)) 10)) ((f70 81 (of_decide_eq_true rfl)).trans (f52 81 (of_decide_eq_true rfl))) hs_jBook
            have z107 : (σ68 2 0).toInt = (σ 2 0).toInt := (congrArg Int32.toInt (show σ68 2 0 = (σ 2 0) from ((congrFun (f70 2 (of_decide_eq_true rfl)) 0).trans (congrFun (f52 2 (of_decide_eq_true rfl)) 0))))
            have z108 : (σ68 55 6).toInt = (σ 55 6).toInt := (congrArg Int32.toInt (show σ68 55 6 = (σ 55 6) from ((f71 6 (of_decide_eq_true rfl)).trans (congrFun (f52 55 (of_decide_eq_true rfl)) 6))))
            have z109 : (σ68 2 2).toInt = (σ 2 2).toInt := (congrArg Int32.toInt (show σ68 2 2 = (σ 2 2) from ((congrFun (f70 2 (of_decide_eq_true rfl)) 2).trans (congrFun (f52 2 (of_decide_eq_true rfl)) 2))))
            have z110 : (σ68 55 5).toInt = (σ 55 5).toInt := (congrArg Int32.toInt (show σ68 55 5 = (σ 55 5) from ((f71 5 (of_decide_eq_true rfl)).trans (congrFun (f52 55 (of_decide_eq_true rfl)) 5))))
            have z111 : (σ68 2 3).toInt = (σ 2 3).toInt := (congrArg Int32.toInt (show σ68 2 3 = (σ 2 3) from ((congrFun (f70 2 (of_decide_eq_true rfl)) 3).trans (congrFun (f52 2 (of_decide_eq_true rfl)) 3))))
            have z112 : (σ68 55 4).toInt = (σ 55 4).toInt := (congrArg Int32.toInt (show σ68 55 4 = (σ 55 4) from ((f71 4 (of_decide_eq_true rfl)).trans (congrFun (f52 55 (of_decide_eq_true rfl)) 4))))
            have z113 : (σ68 9 0).toInt = (σ50 9 0).toInt := (congrArg Int32.toInt (show σ68 9 0 = (σ50 9 0) from (congrFun (f70 9 (of_decide_eq_true rfl)) 0)))
            have z114 : (σ68 16 0).toInt = (σ 16 0).toInt := (congrArg Int32.toInt (show σ68 16 0 = (σ 16 0) from ((congrFun (f70 16 (of_decide_eq_true rfl)) 0).trans (congrFun (f52 16 (of_decide_eq_true rfl)) 0))))
            have z115 : (σ68 55 10).toInt = (σ 55 10).toInt := (congrArg Int32.toInt (show σ68 55 10 = (σ 55 10) from ((f71 10 (of_decide_eq_true rfl)).trans (congrFun (f52 55 (of_decide_eq_true rfl)) 10))))
            have z116 : (σ68 16 1).toInt = (σ 16 1).toInt := (congrArg Int32.toInt (show σ68 16 1 = (σ 16 1) from ((congrFun (f70 16 (of_decide_eq_true rfl)) 1).trans (congrFun (f52 16 (of_decide_eq_true rfl)) 1))))
            have z117 : (σ68 55 12).toInt = (σ 55 12).toInt := (congrArg Int32.toInt (show σ68 55 12 = (σ 55 12) from ((f71 12 (of_decide_eq_true rfl)).trans (congrFun (f52 55 (of_decide_eq_true rfl)) 12))))
            have z118 : (σ68 16 2).toInt = (σ 16 2).toInt := (congrArg Int32.toInt (show σ68 16 2 = (σ 16 2) from ((congrFun (f70 16 (of_decide_eq_true rfl)) 2).trans (congrFun (f52 16 (of_decide_eq_true rfl)) 2))))
            have z119 : (σ68 55 13).toInt = (σ 55 13).toInt := (congrArg Int32.toInt (show σ68 55 13 = (σ 55 13) from ((f71 13 (of_decide_eq_true rfl)).trans (congrFun (f52 55 (of_decide_eq_true rfl)) 13))))
            have z120 : (σ68 38 0).toInt = (σ 38 0).toInt := (congrArg Int32.toInt (show σ68 38 0 = (σ 38 0) from ((congrFun (f70 38 (of_decide_eq_true rfl)) 0).trans (congrFun (f52 38 (of_decide_eq_true rfl)) 0))))
            have z121 : (σ68 55 32).toInt = (σ 55 32).toInt := (congrArg Int32.toInt (show σ68 55 32 = (σ 55 32) from ((f71 32 (of_decide_eq_true rfl)).trans (congrFun (f52 55 (of_decide_eq_true rfl)) 32))))
            have z122 : (σ68 38 1).toInt = (σ 38 1).toInt := (congrArg Int32.toInt (show σ68 38 1 = (σ 38 1) from ((congrFun (f70 38 (of_decide_eq_true rfl)) 1).trans (congrFun (f52 38 (of_decide_eq_true rfl)) 1))))
            have z123 : (σ68 55 55).toInt = (σ 55 55).toInt := (congrArg Int32.toInt (show σ68 55 55 = (σ 55 55) from ((f71 55 (of_decide_eq_true rfl)).trans (congrFun (f52 55 (of_decide_eq_true rfl)) 55))))
            have z124 : (σ68 47 0).toInt = (σ 47 0).toInt := (congrArg Int32.toInt (show σ68 47 0 = (σ 47 0) from ((congrFun (f70 47 (of_decide_eq_true rfl)) 0).trans (congrFun (f52 47 (of_decide_eq_true rfl)) 0))))
            have z125 : (σ68 55 47).toInt = (σ 55 47).toInt := (congrArg Int32.toInt (show σ68 55 47 = (σ 55 47) from ((f71 47 (of_decide_eq_true rfl)).trans (congrFun (f52 55 (of_decide_eq_true rfl)) 47))))
            have z126 : (σ68 55 30).toInt = (σ 55 30).toInt := (congrArg Int32.toInt (show σ68 55 30 = (σ 55 30) from ((f71 30 (of_decide_eq_true rfl)).trans (congrFun (f52 55 (of_decide_eq_true rfl)) 30))))
            have z127 : (σ68 55 31).toInt = (σ 55 31).toInt := (congrArg Int32.toInt (show σ68 55 31 = (σ 55 31) from ((f71 31 (of_decide_eq_true rfl)).trans (congrFun (f52 55 (of_decide_eq_true rfl)) 31))))
            exact by exact ih x83 σ68 τ _ _ ls (by have h9 := tx83; omega) ⟨I84, I85, I86, I87, I88, I89, I90, I91, I92, I93, I94, I95, I96, I97, I98, I72, I99, I100, I101, I102, I103, I104, p105, p106, (by omega), (by omega), (by omega), (by omega), (by omega), (by omega), (by omega), (by omega), (by omega), (by omega), (by omega), (by omega), (show jNumP (σ68 3) (σ68 56) (σ68 6) (σ68 57) (σ68 7) (σ68 58) (σ68 8) (σ68 59) (σ68 55 6).toInt (σ68 55 4).toInt by rw [show σ68 3 = σ 3 from ((f70 3 (of_decide_eq_true rfl)).trans (f52 3 (of_decide_eq_true rfl))), show σ68 56 = σ 56 from ((f70 56 (of_decide_eq_true rfl)).trans (f52 56 (of_decide_eq_true rfl))), show σ68 6 = σ 6 from ((f70 6 (of_decide_eq_true rfl)).trans (f52 6 (of_decide_eq_true rfl))), show σ68 57 = σ 57 from ((f70 57 (of_decide_eq_true rfl)).trans (f52 57 (of_decide_eq_true rfl))), show σ68 7 = σ 7 from ((f70 7 (of_decide_eq_true rfl)).trans (f52 7 (of_decide_eq_true rfl))), show σ68 58 = σ 58 from ((f70 58 (of_decide_eq_true rfl)).trans (f52 58 (of_decide_eq_true rfl))), show σ68 8 = σ 8 from ((f70 8 (of_decide_eq_true rfl)).trans (f52 8 (of_decide_eq_true rfl))), show σ68 59 = σ 59 from ((f70 59 (of_decide_eq_true rfl)).trans (f52 59 (of_decide_eq_true rfl))), show (σ68 55 6).toInt = (σ 55 6).toInt from by omega, show (σ68 55 4).toInt = (σ 55 4).toInt from by omega]; exact hr0), (show jOvP (σ68 56) (σ68 57) (σ68 58) (σ68 59) (σ68 55 4).toInt by rw [show σ68 56 = σ 56 from ((f70 56 (of_decide_eq_true rfl)).trans (f52 56 (of_decide_eq_true rfl))), show σ68 57 = σ 57 from ((f70 57 (of_decide_eq_true rfl)).trans (f52 57 (of_decide_eq_true rfl))), show σ68 58 = σ 58 from ((f70 58 (of_decide_eq_true rfl)).trans (f52 58 (of_decide_eq_true rfl))), show σ68 59 = σ 59 from ((f70 59 (of_decide_eq_true rfl)).trans (f52 59 (of_decide_eq_true rfl))), show (σ68 55 4).toInt = (σ 55 4).toInt from by omega]; exact hr1), (show jTp (σ68 10) (σ68 63) (σ68 55 15).toInt by rw [show σ68 10 = σ 10 from ((f70 10 (of_decide_eq_true rfl)).trans k64), show σ68 63 = σ 63 from (k81.trans (f52 63 (of_decide_eq_true rfl)))]; exact hr2.le (by omega)), (show jSo (σ68 17) (σ68 62) (σ68 16 0).toInt by rw [show σ68 17 = σ 17 from ((f70 17 (of_decide_eq_true rfl)).trans (f52 17 (of_decide_eq_true rfl))), show σ68 62 = σ 62 from ((f70 62 (of_decide_eq_true rfl)).trans (f52 62 (of_decide_eq_true rfl))), show (σ68 16 0).toInt = (σ 16 0).toInt from by omega]; exact hr3), (show jShP (σ68 51) (σ68 52) (σ68 53) (σ68 86) (σ68 87) (σ68 55 32).toInt by rw [show σ68 51 = σ 51 from ((f70 51 (of_decide_eq_true rfl)).trans (f52 51 (of_decide_eq_true rfl))), show σ68 52 = σ 52 from ((f70 52 (of_decide_eq_true rfl)).trans (f52 52 (of_decide_eq_true rfl))), show σ68 53 = σ 53 from ((f70 53 (of_decide_eq_true rfl)).trans (f52 53 (of_decide_eq_true rfl))), show σ68 86 = σ 86 from ((f70 86 (of_decide_eq_true rfl)).trans (f52 86 (of_decide_eq_true rfl))), show σ68 87 = σ 87 from ((f70 87 (of_decide_eq_true rfl)).trans (f52 87 (of_decide_eq_true rfl)))]; exact (hr4.up (by omega) (by omega))), (show jEl (σ68 51) (σ68 52) (τ 54) (τ 88) by rw [show σ68 51 = σ 51 from ((f70 51 (of_decide_eq_true rfl)).trans (f52 51 (of_decide_eq_true rfl))), show σ68 52 = σ 52 from ((f70 52 (of_decide_eq_true rfl)).trans (f52 52 (of_decide_eq_true rfl)))]; exact hr5), (show jByP (σ68 51) (σ68 52) (τ 54) by rw [show σ68 51 = σ 51 from ((f70 51 (of_decide_eq_true rfl)).trans (f52 51 (of_decide_eq_true rfl))), show σ68 52 = σ 52 from ((f70 52 (of_decide_eq_true rfl)).trans (f52 52 (of_decide_eq_true rfl)))]; exact hr6), (show jBk (σ68 48) (σ68 80) (σ68 49) (σ68 81) (σ68 55 47).toInt by rw [show σ68 48 = σ 48 from ((f70 48 (of_decide_eq_true rfl)).trans (f52 48 (of_decide_eq_true rfl))), show σ68 49 = σ 49 from ((f70 49 (of_decide_eq_true rfl)).trans (f52 49 (of_decide_eq_true rfl))), show σ68 80 = σ 80 from ((f70 80 (of_decide_eq_true rfl)).trans (f52 80 (of_decide_eq_true rfl))), show σ68 81 = σ 81 from ((f70 81 (of_decide_eq_true rfl)).trans (f52 81 (of_decide_eq_true rfl))), show (σ68 55 47).toInt = (σ 55 47).toInt from by omega]; exact hr7), (show jKd (σ68 39) (σ68 70) (σ68 55 32).toInt by rw [show σ68 39 = σ 39 from ((f70 39 (of_decide_eq_true rfl)).trans (f52 39 (of_decide_eq_true rfl))), show σ68 70 = σ 70 from ((f70 70 (of_decide_eq_true rfl)).trans (f52 70 (of_decide_eq_true rfl))), show (σ68 55 32).toInt = (σ 55 32).toInt from by omega]; exact hr8), (show jTt (σ68 42) (σ68 85) (σ68 55 55).toInt by rw [show σ68 42 = σ 42 from ((f70 42 (of_decide_eq_true rfl)).trans (f52 42 (of_decide_eq_true rfl))), show σ68 85 = σ 85 from ((f70 85 (of_decide_eq_true rfl)).trans (f52 85 (of_decide_eq_true rfl))), show (σ68 55 55).toInt = (σ 55 55).toInt from by omega]; exact hr9)⟩ hP hS (lv_sub hl [0, 1, 2, 3] rfl)
        · obtain ⟨q133, k129, k130, k131, k132⟩ := h77
          exact absurd (by omega : False) id
        · obtain ⟨q139, k134, k135, k136, k137, k138⟩ := h78
          exact absurd (by omega : False) id
    · obtain ⟨q144, k140, k141, k142, k143⟩ := h60
      have q144 := q144.symm
      subst q144
      refine lv_pop hx hb dL_law_362 rfl ?_
      refine lv_aload_n hx hb dL_law_363 rfl (lv_at hl 1 rfl) ?_
      refine lv_aload_n hx hb dL_law_364 rfl (lv_at hl 3 rfl) ?_
      refine lv_iload_n hx hb dL_law_365 rfl (lv_at hl 0 rfl) ?_
      refine lv_iconst (v := 1) hx hb dL_law_366 (of_decide_eq_true rfl) ?_
      refine lv_iadd hx hb dL_law_367 ?_
      refine jtopr ex46.symm ?_
      exact by
       refine va_sld hx hb hX hbl hbA hS (jin tx46 (by omega) (by omega)) dL_law_368 ?_
       refine lv_aload_n hx hb dL_law_369 rfl (lv_at hl 3 rfl) ?_
       refine lv_iload_n hx hb dL_law_370 rfl (lv_at hl 0 rfl) ?_
       refine lv_iconst (v := 2) hx hb dL_law_371 (of_decide_eq_true rfl) ?_
       refine lv_iadd hx hb dL_law_372 ?_
       refine jtopr ex48.symm ?_
       refine va_sld hx hb hX hbl hbA hS (jin tx48 (by omega) (by omega)) dL_law_373 ?_
       have I145 : jI105 σ50 := jI105_fr (congrFun (f52 55 (of_decide_eq_true rfl)) 15) (f52 65 (of_decide_eq_true rfl)) hI105
       have z146 : (σ50 55 15).toInt = (σ 55 15).toInt := (congrArg Int32.toInt (show σ50 55 15 = (σ 55 15) from (congrFun (f52 55 (of_decide_eq_true rfl)) 15)))
       exact by
        refine jcallV (As := [.int (xs x46.toNatClampNeg), .int (xs x48.toNatClampNeg)]) (rest := []) ⟨hx, hb, hml, hown, hts⟩ hK hP hA hS hZ (c_X12_feed l D cI cL ad zz hJ σ50 τ (xs x46.toNatClampNeg) ((xs x46.toNatClampNeg).toInt) rfl (xs x48.toNatClampNeg) ((xs x48.toNatClampNeg).toInt) rfl I145) cw_RL_35 (jc_55 cI cL ad σ50 τ) rfl ⟨Nat.le_of_ble_eq_true rfl, Nat.le_of_ble_eq_true rfl⟩ rfl rfl rfl hl.1 rfl (Nat.le_of_ble_eq_true rfl) dL_law_374 ⟨Nat.le_of_ble_eq_true rfl, Nat.le_of_ble_eq_true rfl⟩ (fun r148 σ147 τ147 H locs h147 hP hS => ?_)
        obtain ⟨rfl, f149, f150, I151, h147⟩ := h147
        obtain ⟨i153, w154⟩ : (0 ≤ (σ147 55 15).toInt ∧ (σ147 55 15).toInt ≤ 80) ∧ (∀ k : Nat, k < 2 → (-1) ≤ (σ147 65 k).toInt ∧ (σ147 65 k).toInt ≤ 80) := id I151
        rcases h147 with h155 | h156 | h157
        · obtain ⟨q161, k158, k159, k160⟩ := h155
          exact absurd (by omega : False) id
        · obtain ⟨q166, k162, k163, k164, k165⟩ := h156
          have q166 := q166.symm
          subst q166
          refine lv_pop hx hb dL_law_377 rfl ?_
          refine lv_goto (tgt := 1357) hx hb dL_law_378 (of_decide_eq_true rfl) ?_
          obtain ⟨x167, ex167⟩ : ∃ y : Int32, y = x0 + 6 := ⟨_, rfl⟩
          exact by
           have tx167 : x167.toInt = x0.toInt + 6 := (jadd ex167 rfl jz_6 (by omega) (by omega)).trans (by omega)
           refine lv_iinc (v := x167) (lv' := [(3, .int x167), (2, .ref (ad 55)), (1, .ref (ad 0)), (0, .ref b)]) hx hb dL_law_1357 hl (k := 0) rfl (by rw [ex167]; rfl) (of_decide_eq_true rfl) rfl (fun ls hl => ?_)
           refine lv_goto (tgt := 18) hx hb dL_law_1360 (of_decide_eq_true rfl) ?_
           have I168 : jI2 σ147 := jI2_fr ((congrFun (f149 2 (of_decide_eq_true rfl)) 0).trans (congrFun (f52 2 (of_decide_eq_true rfl)) 0)) ((congrFun (f149 2 (of_decide_eq_true rfl)) 1).trans (congrFun (f52 2 (of_decide_eq_true rfl)) 1)) ((congrFun (f149 2 (of_decide_eq_true rfl)) 2).trans (congrFun (f52 2 (of_decide_eq_true rfl)) 2)) ((congrFun (f149 2 (of_decide_eq_true rfl)) 3).trans (congrFun (f52 2 (of_decide_eq_true rfl)) 3)) ((f149 6 (of_decide_eq_true rfl)).trans (f52 6 (of_decide_eq_true rfl))) hI2
           have I169 : jI9 σ147 := jI9_fr (congrFun (f149 9 (of_decide_eq_true rfl)) 0) (f149 10 (of_decide_eq_true rfl)) (f149 11 (of_decide_eq_true rfl)) I54
           have I170 : jI12 σ147 := jI12_fr ((congrFun (f149 12 (of_decide_eq_true rfl)) 0).trans (congrFun (f52 12 (of_decide_eq_true rfl)) 0)) ((f149 13 (of_decide_eq_true rfl)).trans (f52 13 (of_decide_eq_true rfl))) hI12
           have I171 : jI16 σ147 := jI16_fr ((congrFun (f149 16 (of_decide_eq_true rfl)) 0).trans (congrFun (f52 16 (of_decide_eq_true rfl)) 0)) ((congrFun (f149 16 (of_decide_eq_true rfl)) 1).trans (congrFun (f52 16 (of_decide_eq_true rfl)) 1)) ((congrFun (f149 16 (of_decide_eq_true rfl)) 2).trans (congrFun (f52 16 (of_decide_eq_true rfl)) 2)) ((f149 17 (of_decide_eq_true rfl)).trans (f52 17 (of_decide_eq_true rfl))) hI16
           have I172 : jI18 σ147 := jI18_fr ((congrFun (f149 18 (of_decide_eq_true rfl)) 0).trans (congrFun (f52 18 (of_decide_eq_true rfl)) 0)) ((f149 19 (of_decide_eq_true rfl)).trans (f52 19 (of_decide_eq_true rfl))) hI18
           have I173 : jI22 σ147 := jI22_fr ((congrFun (f149 22 (of_decide_eq_true rfl)) 0).trans (congrFun (f52 22 (of_decide_eq_true rfl)) 0)) ((f149 23 (of_decide_eq_true rfl)).trans (f52 23 (of_decide_eq_true rfl))) hI22
           exact by
            have I174 : jI31 σ147 := jI31_fr ((congrFun (f149 31 (of_decide_eq_true rfl)) 8).trans (congrFun (f52 31 (of_decide_eq_true rfl)) 8)) ((f149 33 (of_decide_eq_true rfl)).trans (f52 33 (of_decide_eq_true rfl))) ((f149 36 (of_decide_eq_true rfl)).trans (f52 36 (of_decide_eq_true rfl))) hI31
            have I175 : jI38 σ147 := jI38_fr ((congrFun (f149 38 (of_decide_eq_true rfl)) 0).trans (congrFun (f52 38 (of_decide_eq_true rfl)) 0)) ((congrFun (f149 38 (of_decide_eq_true rfl)) 1).trans (congrFun (f52 38 (of_decide_eq_true rfl)) 1)) ((f149 39 (of_decide_eq_true rfl)).trans (f52 39 (of_decide_eq_true rfl))) hI38
            have I176 : jI43 σ147 := jI43_fr ((congrFun (f149 43 (of_decide_eq_true rfl)) 8).trans (congrFun (f52 43 (of_decide_eq_true rfl)) 8)) hI43
            have I177 : jI47 σ147 := jI47_fr ((congrFun (f149 47 (of_decide_eq_true rfl)) 0).trans (congrFun (f52 47 (of_decide_eq_true rfl)) 0)) ((f149 48 (of_decide_eq_true rfl)).trans (f52 48 (of_decide_eq_true rfl))) ((f149 49 (of_decide_eq_true rfl)).trans (f52 49 (of_decide_eq_true rfl))) hI47
            have I178 : jI50 σ147 := jI50_fr ((f149 52 (of_decide_eq_true rfl)).trans (f52 52 (of_decide_eq_true rfl))) hI50
            have I179 : jI101 σ147 := jI101_fr ((f150 4 (of_decide_eq_true rfl)).trans (congrFun (f52 55 (of_decide_eq_true rfl)) 4)) ((f150 5 (of_decide_eq_true rfl)).trans (congrFun (f52 55 (of_decide_eq_true rfl)) 5)) ((f149 56 (of_decide_eq_true rfl)).trans (f52 56 (of_decide_eq_true rfl))) ((f149 57 (of_decide_eq_true rfl)).trans (f52 57 (of_decide_eq_true rfl))) ((f149 58 (of_decide_eq_true rfl)).trans (f52 58 (of_decide_eq_true rfl))) ((f149 59 (of_decide_eq_true rfl)).trans (f52 59 (of_decide_eq_true rfl))) hI101
            have I180 : jI102 σ147 := jI102_fr ((f150 6 (of_decide_eq_true rfl)).trans (congrFun (f52 55 (of_decide_eq_true rfl)) 6)) ((f149 60 (of_decide_eq_true rfl)).trans (f52 60 (of_decide_eq_true rfl))) ((f149 61 (of_decide_eq_true rfl)).trans (f52 61 (of_decide_eq_true rfl))) hI102
            have I181 : jI103 σ147 := jI103_fr ((f150 9 (of_decide_eq_true rfl)).trans (congrFun (f52 55 (of_decide_eq_true rfl)) 9)) hI103
            have I182 : jI104 σ147 := jI104_fr ((f150 10 (of_decide_eq_true rfl)).trans (congrFun (f52 55 (of_decide_eq_true rfl)) 10)) ((f150 12 (of_decide_eq_true rfl)).trans (congrFun (f52 55 (of_decide_eq_true rfl)) 12)) ((f150 13 (of_decide_eq_true rfl)).trans (congrFun (f52 55 (of_decide_eq_true rfl)) 13)) ((f149 62 (of_decide_eq_true rfl)).trans (f52 62 (of_decide_eq_true rfl))) ((f149 67 (of_decide_eq_true rfl)).trans (f52 67 (of_decide_eq_true rfl))) hI104
            have I183 : jI106 σ147 := jI106_fr ((f150 32 (of_decide_eq_true rfl)).trans (congrFun (f52 55 (of_decide_eq_true rfl)) 32)) ((f149 70 (of_decide_eq_true rfl)).trans (f52 70 (of_decide_eq_true rfl))) ((f149 71 (of_decide_eq_true rfl)).trans (f52 71 (of_decide_eq_true rfl))) ((f149 72 (of_decide_eq_true rfl)).trans (f52 72 (of_decide_eq_true rfl))) hI106
            have I184 : jI107 σ147 := jI107_fr ((f150 12 (of_decide_eq_true rfl)).trans (congrFun (f52 55 (of_decide_eq_true rfl)) 12)) ((f150 47 (of_decide_eq_true rfl)).trans (congrFun (f52 55 (of_decide_eq_true rfl)) 47)) ((f149 80 (of_decide_eq_true rfl)).trans (f52 80 (of_decide_eq_true rfl))) hI107
            have I185 : jI109 σ147 := jI109_fr ((f150 50 (of_decide_eq_true rfl)).trans (congrFun (f52 55 (of_decide_eq_true rfl)) 50)) hI109
            have I186 : jI110 σ147 := jI110_fr ((f149 86 (of_decide_eq_true rfl)).trans (f52 86 (of_decide_eq_true rfl))) ((f149 87 (of_decide_eq_true rfl)).trans (f52 87 (of_decide_eq_true rfl))) hI110
            have I187 : jI111 σ147 := jI111_fr ((f149 79 (of_decide_eq_true rfl)).trans (f52 79 (of_decide_eq_true rfl))) hI111
            have I188 : jI119 σ147 := jI119_fr ((f149 68 (of_decide_eq_true rfl)).trans (f52 68 (of_decide_eq_true rfl))) hI119
            have p189 : jKept σ147 := jKept.fr ((f149 75 (of_decide_eq_true rfl)).trans (f52 75 (of_decide_eq_true rfl))) ((f149 76 (of_decide_eq_true rfl)).trans (f52 76 (of_decide_eq_true rfl))) ((f149 77 (of_decide_eq_true rfl)).trans (f52 77 (of_decide_eq_true rfl))) hs_jKept
            have p190 : jBook σ147 := jBook.fr ((f150 47 (of_decide_eq_true rfl)).trans (congrFun (f52 55 (of_decide_eq_true rfl)) 47)) ((f150 10 (of_decide_eq_true rfl)).trans (congrFun (f52 55 (of_decide_eq_true rfl)) 10)) ((f149 81 (of_decide_eq_true rfl)).trans (f52 81 (of_decide_eq_true rfl))) hs_jBook
            have z191 : (σ147 2 0).toInt = (σ 2 0).toInt := (congrArg Int32.toInt (show σ147 2 0 = (σ 2 0) from ((congrFun (f149 2 (of_decide_eq_true rfl)) 0).trans (congrFun (f52 2 (of_decide_eq_true rfl)) 0))))
            have z192 : (σ147 55 6).toInt = (σ 55 6).toInt := (congrArg Int32.toInt (show σ147 55 6 = (σ 55 6) from ((f150 6 (of_decide_eq_true rfl)).trans (congrFun (f52 55 (of_decide_eq_true rfl)) 6))))
            have z193 : (σ147 2 2).toInt = (σ 2 2).toInt := (congrArg Int32.toInt (show σ147 2 2 = (σ 2 2) from ((congrFun (f149 2 (of_decide_eq_true rfl)) 2).trans (congrFun (f52 2 (of_decide_eq_true rfl)) 2))))
            have z194 : (σ147 55 5).toInt = (σ 55 5).toInt := (congrArg Int32.toInt (show σ147 55 5 = (σ 55 5) from ((f150 5 (of_decide_eq_true rfl)).trans (congrFun (f52 55 (of_decide_eq_true rfl)) 5))))
            have z195 : (σ147 2 3).toInt = (σ 2 3).toInt := (congrArg Int32.toInt (show σ147 2 3 = (σ 2 3) from ((congrFun (f149 2 (of_decide_eq_true rfl)) 3).trans (congrFun (f52 2 (of_decide_eq_true rfl)) 3))))
            have z196 : (σ147 55 4).toInt = (σ 55 4).toInt := (congrArg Int32.toInt (show σ147 55 4 = (σ 55 4) from ((f150 4 (of_decide_eq_true rfl)).trans (congrFun (f52 55 (of_decide_eq_true rfl)) 4))))
            have z197 : (σ147 9 0).toInt = (σ50 9 0).toInt := (congrArg Int32.toInt (show σ147 9 0 = (σ50 9 0) from (congrFun (f149 9 (of_decide_eq_true rfl)) 0)))
            have z198 : (σ147 16 0).toInt = (σ 16 0).toInt := (congrArg Int32.toInt (show σ147 16 0 = (σ 16 0) from ((congrFun (f149 16 (of_decide_eq_true rfl)) 0).trans (congrFun (f52 16 (of_decide_eq_true rfl)) 0))))
            have z199 : (σ147 55 10).toInt = (σ 55 10).toInt := (congrArg Int32.toInt (show σ147 55 10 = (σ 55 10) from ((f150 10 (of_decide_eq_true rfl)).trans (congrFun (f52 55 (of_decide_eq_true rfl)) 10))))
            have z200 : (σ147 16 1).toInt = (σ 16 1).toInt := (congrArg Int32.toInt (show σ147 16 1 = (σ 16 1) from ((congrFun (f149 16 (of_decide_eq_true rfl)) 1).trans (congrFun (f52 16 (of_decide_eq_true rfl)) 1))))
            have z201 : (σ147 55 12).toInt = (σ 55 12).toInt := (congrArg Int32.toInt (show σ147 55 12 = (σ 55 12) from ((f150 12 (of_decide_eq_true rfl)).trans (congrFun (f52 55 (of_decide_eq_true rfl)) 12))))
            have z202 : (σ147 16 2).toInt = (σ 16 2).toInt := (congrArg Int32.toInt (show σ147 16 2 = (σ 16 2) from ((congrFun (f149 16 (of_decide_eq_true rfl)) 2).trans (congrFun (f52 16 (of_decide_eq_true rfl)) 2))))
            have z203 : (σ147 55 13).toInt = (σ 55 13).toInt := (congrArg Int32.toInt (show σ147 55 13 = (σ 55 13) from ((f150 13 (of_decide_eq_true rfl)).trans (congrFun (f52 55 (of_decide_eq_true rfl)) 13))))
            have z204 : (σ147 38 0).toInt = (σ 38 0).toInt := (congrArg Int32.toInt (show σ147 38 0 = (σ 38 0) from ((congrFun (f149 38 (of_decide_eq_true rfl)) 0).trans (congrFun (f52 38 (of_decide_eq_true rfl)) 0))))
            have z205 : (σ147 55 32).toInt = (σ 55 32).toInt := (congrArg Int32.toInt (show σ147 55 32 = (σ 55 32) from ((f150 32 (of_decide_eq_true rfl)).trans (congrFun (f52 55 (of_decide_eq_true rfl)) 32))))
            have z206 : (σ147 38 1).toInt = (σ 38 1).toInt := (congrArg Int32.toInt (show σ147 38 1 = (σ 38 1) from ((congrFun (f149 38 (of_decide_eq_true rfl)) 1).trans (congrFun (f52 38 (of_decide_eq_true rfl)) 1))))
            have z207 : (σ147 55 55).toInt = (σ 55 55).toInt := (congrArg Int32.toInt (show σ147 55 55 = (σ 55 55) from ((f150 55 (of_decide_eq_true rfl)).trans (congrFun (f52 55 (of_decide_eq_true rfl)) 55))))
            have z208 : (σ147 47 0).toInt = (σ 47 0).toInt := (congrArg Int32.toInt (show σ147 47 0 = (σ 47 0) from ((congrFun (f149 47 (of_decide_eq_true rfl)) 0).trans (congrFun (f52 47 (of_decide_eq_true rfl)) 0))))
            have z209 : (σ147 55 47).toInt = (σ 55 47).toInt := (congrArg Int32.toInt (show σ147 55 47 = (σ 55 47) from ((f150 47 (of_decide_eq_true rfl)).trans (congrFun (f52 55 (of_decide_eq_true rfl)) 47))))
            have z210 : (σ147 55 30).toInt = (σ 55 30).toInt := (congrArg Int32.toInt (show σ147 55 30 = (σ 55 30) from ((f150 30 (of_decide_eq_true rfl)).trans (congrFun (f52 55 (of_decide_eq_true rfl)) 30))))
            have z211 : (σ147 55 31).toInt = (σ 55 31).toInt := (congrArg Int32.toInt (show σ147 55 31 = (σ 55 31) from ((f150 31 (of_decide_eq_true rfl)).trans (congrFun (f52 55 (of_decide_eq_true rfl)) 31))))
            exact by exact ih x167 σ147 τ _ _ ls (by have h9 := tx167; omega) ⟨I168, I169, I170, I171, I172, I173, I174, I175, I176, I177, I178, I179, I180, I181, I182, I151, I183, I184, I185, I186, I187, I188, p189, p190, (by omega), (by omega), (by omega), (by omega), (by omega), (by omega), (by omega), (by omega), (by omega), (by omega), (by omega), (by omega), (show jNumP (σ147 3) (σ147 56) (σ147 6) (σ147 57) (σ147 7) (σ147 58) (σ147 8) (σ147 59) (σ147 55 6).toInt (σ147 55 4).toInt by rw [show σ147 3 = σ 3 from ((f149 3 (of_decide_eq_true rfl)).trans (f52 3 (of_decide_eq_true rfl))), show σ147 56 = σ 56 from ((f149 56 (of_decide_eq_true rfl)).trans (f52 56 (of_decide_eq_true rfl))), show σ147 6 = σ 6 from ((f149 6 (of_decide_eq_true rfl)).trans (f52 6 (of_decide_eq_true rfl))), show σ147 57 = σ 57 from ((f149 57 (of_decide_eq_true rfl)).trans (f52 57 (of_decide_eq_true rfl))), show σ147 7 = σ 7 from ((f149 7 (of_decide_eq_true rfl)).trans (f52 7 (of_decide_eq_true rfl))), show σ147 58 = σ 58 from ((f149 58 (of_decide_eq_true rfl)).trans (f52 58 (of_decide_eq_true rfl))), show σ147 8 = σ 8 from ((f149 8 (of_decide_eq_true rfl)).trans (f52 8 (of_decide_eq_true rfl))), show σ147 59 = σ 59 from ((f149 59 (of_decide_eq_true rfl)).trans (f52 59 (of_decide_eq_true rfl))), show (σ147 55 6).toInt = (σ 55 6).toInt from by omega, show (σ147 55 4).toInt = (σ 55 4).toInt from by omega]; exact hr0), (show jOvP (σ147 56) (σ147 57) (σ147 58) (σ147 59) (σ147 55 4).toInt by rw [show σ147 56 = σ 56 from ((f149 56 (of_decide_eq_true rfl)).trans (f52 56 (of_decide_eq_true rfl))), show σ147 57 = σ 57 from ((f149 57 (of_decide_eq_true rfl)).trans (f52 57 (of_decide_eq_true rfl))), show σ147 58 = σ 58 from ((f149 58 (of_decide_eq_true rfl)).trans (f52 58 (of_decide_eq_true rfl))), show σ147 59 = σ 59 from ((f149 59 (of_decide_eq_true rfl)).trans (f52 59 (of_decide_eq_true rfl))), show (σ147 55 4).toInt = (σ 55 4).toInt from by omega]; exact hr1), (show jTp (σ147 10) (σ147 63) (σ147 55 15).toInt by rw [show σ147 10 = σ 10 from ((f149 10 (of_decide_eq_true rfl)).trans k143), show σ147 63 = σ 63 from (k165.trans (f52 63 (of_decide_eq_true rfl)))]; exact hr2.le (by omega)), (show jSo (σ147 17) (σ147 62) (σ147 16 0).toInt by rw [show σ147 17 = σ 17 from ((f149 17 (of_decide_eq_true rfl)).trans (f52 17 (of_decide_eq_true rfl))), show σ147 62 = σ 62 from ((f149 62 (of_decide_eq_true rfl)).trans (f52 62 (of_decide_eq_true rfl))), show (σ147 16 0).toInt = (σ 16 0).toInt from by omega]; exact hr3), (show jShP (σ147 51) (σ147 52) (σ147 53) (σ147 86) (σ147 87) (σ147 55 32).toInt by rw [show σ147 51 = σ 51 from ((f149 51 (of_decide_eq_true rfl)).trans (f52 51 (of_decide_eq_true rfl))), show σ147 52 = σ 52 from ((f149 52 (of_decide_eq_true rfl)).trans (f52 52 (of_decide_eq_true rfl))), show σ147 53 = σ 53 from ((f149 53 (of_decide_eq_true rfl)).trans (f52 53 (of_decide_eq_true rfl))), show σ147 86 = σ 86 from ((f149 86 (of_decide_eq_true rfl)).trans (f52 86 (of_decide_eq_true rfl))), show σ147 87 = σ 87 from ((f149 87 (of_decide_eq_true rfl)).trans (f52 87 (of_decide_eq_true rfl)))]; exact (hr4.up (by omega) (by omega))), (show jEl (σ147 51) (σ147 52) (τ 54) (τ 88) by rw [show σ147 51 = σ 51 from ((f149 51 (of_decide_eq_true rfl)).trans (f52 51 (of_decide_eq_true rfl))), show σ147 52 = σ 52 from ((f149 52 (of_decide_eq_true rfl)).trans (f52 52 (of_decide_eq_true rfl)))]; exact hr5), (show jByP (σ147 51) (σ147 52) (τ 54) by rw [show σ147 51 = σ 51 from ((f149 51 (of_decide_eq_true rfl)).trans (f52 51 (of_decide_eq_true rfl))), show σ147 52 = σ 52 from ((f149 52 (of_decide_eq_true rfl)).trans (f52 52 (of_decide_eq_true rfl)))]; exact hr6), (show jBk (σ147 48) (σ147 80) (σ147 49) (σ147 81) (σ147 55 47).toInt by rw [show σ147 48 = σ 48 from ((f149 48 (of_decide_eq_true rfl)).trans (f52 48 (of_decide_eq_true rfl))), show σ147 49 = σ 49 from ((f149 49 (of_decide_eq_true rfl)).trans (f52 49 (of_decide_eq_true rfl))), show σ147 80 = σ 80 from ((f149 80 (of_decide_eq_true rfl)).trans (f52 80 (of_decide_eq_true rfl))), show σ147 81 = σ 81 from ((f149 81 (of_decide_eq_true rfl)).trans (f52 81 (of_decide_eq_true rfl))), show (σ147 55 47).toInt = (σ 55 47).toInt from by omega]; exact hr7), (show jKd (σ147 39) (σ147 70) (σ147 55 32).toInt by rw [show σ147 39 = σ 39 from ((f149 39 (of_decide_eq_true rfl)).trans (f52 39 (of_decide_eq_true rfl))), show σ147 70 = σ 70 from ((f149 70 (of_decide_eq_true rfl)).trans (f52 70 (of_decide_eq_true rfl))), show (σ147 55 32).toInt = (σ 55 32).toInt from by omega]; exact hr8), (show jTt (σ147 42) (σ147 85) (σ147 55 55).toInt by rw [show σ147 42 = σ 42 from ((f149 42 (of_decide_eq_true rfl)).trans (f52 42 (of_decide_eq_true rfl))), show σ147 85 = σ 85 from ((f149 85 (of_decide_eq_true rfl)).trans (f52 85 (of_decide_eq_true rfl))), show (σ147 55 55).toInt = (σ 55 55).toInt from by omega]; exact hr9)⟩ hP hS (lv_sub hl [0, 1, 2, 3] rfl)
        · obtain ⟨q218, k213, k214, k215, k216, k217⟩ := h157
          exact absurd (by omega : False) id
    · obtain ⟨q224, k219, k220, k221, k222, k223⟩ := h61
      refine lv_pop hx hb dL_law_362 rfl ?_
      refine lv_aload_n hx hb dL_law_363 rfl (lv_at hl 1 rfl) ?_
      refine lv_aload_n hx hb dL_law_364 rfl (lv_at hl 3 rfl) ?_
      refine lv_iload_n hx hb dL_law_365 rfl (lv_at hl 0 rfl) ?_
      refine lv_iconst (v := 1) hx hb dL_law_366 (of_decide_eq_true rfl) ?_
      refine lv_iadd hx hb dL_law_367 ?_
      refine jtopr ex46.symm ?_
      exact by
       refine va_sld hx hb hX hbl hbA hS (jin tx46 (by omega) (by omega)) dL_law_368 ?_
       refine lv_aload_n hx hb dL_law_369 rfl (lv_at hl 3 rfl) ?_
       refine lv_iload_n hx hb dL_law_370 rfl (lv_at hl 0 rfl) ?_
       refine lv_iconst (v := 2) hx hb dL_law_371 (of_decide_eq_true rfl) ?_
       refine lv_iadd hx hb dL_law_372 ?_
       refine jtopr ex48.symm ?_
       refine va_sld hx hb hX hbl hbA hS (jin tx48 (by omega) (by omega)) dL_law_373 ?_
       have I225 : jI105 σ50 := jI105_fr (congrFun (f52 55 (of_decide_eq_true rfl)) 15) (f52 65 (of_decide_eq_true rfl)) hI105
       have z226 : (σ50 55 15).toInt = (σ 55 15).toInt := (congrArg Int32.toInt (show σ50 55 15 = (σ 55 15) from (congrFun (f52 55 (of_decide_eq_true rfl)) 15)))
       exact by
        refine jcallV (As := [.int (xs x46.toNatClampNeg), .int (xs x48.toNatClampNeg)]) (rest := []) ⟨hx, hb, hml, hown, hts⟩ hK hP hA hS hZ (c_X12_feed l D cI cL ad zz hJ σ50 τ (xs x46.toNatClampNeg) ((xs x46.toNatClampNeg).toInt) rfl (xs x48.toNatClampNeg) ((xs x48.toNatClampNeg).toInt) rfl I225) cw_RL_35 (jc_55 cI cL ad σ50 τ) rfl ⟨Nat.le_of_ble_eq_true rfl, Nat.le_of_ble_eq_true rfl⟩ rfl rfl rfl hl.1 rfl (Nat.le_of_ble_eq_true rfl) dL_law_374 ⟨Nat.le_of_ble_eq_true rfl, Nat.le_of_ble_eq_true rfl⟩ (fun r228 σ227 τ227 H locs h227 hP hS => ?_)
        obtain ⟨rfl, f229, f230, I231, h227⟩ := h227
        obtain ⟨i233, w234⟩ : (0 ≤ (σ227 55 15).toInt ∧ (σ227 55 15).toInt ≤ 80) ∧ (∀ k : Nat, k < 2 → (-1) ≤ (σ227 65 k).toInt ∧ (σ227 65 k).toInt ≤ 80) := id I231
        rcases h227 with h235 | h236 | h237
        · obtain ⟨q241, k238, k239, k240⟩ := h235
          exact absurd (by omega : False) id
        · obtain ⟨q246, k242, k243, k244, k245⟩ := h236
          exact absurd (by omega : False) id
        · obtain ⟨q252, k247, k248, k249, k250, k251⟩ := h237
          refine lv_pop hx hb dL_law_377 rfl ?_
          refine lv_goto (tgt := 1357) hx hb dL_law_378 (of_decide_eq_true rfl) ?_
          obtain ⟨x253, ex253⟩ : ∃ y : Int32, y = x0 + 6 := ⟨_, rfl⟩
          exact by
           have tx253 : x253.toInt = x0.toInt + 6 := (jadd ex253 rfl jz_6 (by omega) (by omega)).trans (by omega)
           refine lv_iinc (v := x253) (lv' := [(3, .int x253), (2, .ref (ad 55)), (1, .ref (ad 0)), (0, .ref b)]) hx hb dL_law_1357 hl (k := 0) rfl (by rw [ex253]; rfl) (of_decide_eq_true rfl) rfl (fun ls hl => ?_)
           refine lv_goto (tgt := 18) hx hb dL_law_1360 (of_decide_eq_true rfl) ?_
           have I254 : jI2 σ227 := jI2_fr ((congrFun (f229 2 (of_decide_eq_true rfl)) 0).trans (congrFun (f52 2 (of_decide_eq_true rfl)) 0)) ((congrFun (f229 2 (of_decide_eq_true rfl)) 1).trans (congrFun (f52 2 (of_decide_eq_true rfl)) 1)) ((congrFun (f229 2 (of_decide_eq_true rfl)) 2).trans (congrFun (f52 2 (of_decide_eq_true rfl)) 2)) ((congrFun (f229 2 (of_decide_eq_true rfl)) 3).trans (congrFun (f52 2 (of_decide_eq_true rfl)) 3)) ((f229 6 (of_decide_eq_true rfl)).trans (f52 6 (of_decide_eq_true rfl))) hI2
           have I255 : jI9 σ227 := jI9_fr (congrFun (f229 9 (of_decide_eq_true rfl)) 0) (f229 10 (of_decide_eq_true rfl)) (f229 11 (of_decide_eq_true rfl)) I54
           have I256 : jI12 σ227 := jI12_fr ((congrFun (f229 12 (of_decide_eq_true rfl)) 0).trans (congrFun (f52 12 (of_decide_eq_true rfl)) 0)) ((f229 13 (of_decide_eq_true rfl)).trans (f52 13 (of_decide_eq_true rfl))) hI12
           have I257 : jI16 σ227 := jI16_fr ((congrFun (f229 16 (of_decide_eq_true rfl)) 0).trans (congrFun (f52 16 (of_decide_eq_true rfl)) 0)) ((congrFun (f229 16 (of_decide_eq_true rfl)) 1).trans (congrFun (f52 16 (of_decide_eq_true rfl)) 1)) ((congrFun (f229 16 (of_decide_eq_true rfl)) 2).trans (congrFun (f52 16 (of_decide_eq_true rfl)) 2)) ((f229 17 (of_decide_eq_true rfl)).trans (f52 17 (of_decide_eq_true rfl))) hI16
           have I258 : jI18 σ227 := jI18_fr ((congrFun (f229 18 (of_decide_eq_true rfl)) 0).trans (congrFun (f52 18 (of_decide_eq_true rfl)) 0)) ((f229 19 (of_decide_eq_true rfl)).trans (f52 19 (of_decide_eq_true rfl))) hI18
           have I259 : jI22 σ227 := jI22_fr ((congrFun (f229 22 (of_decide_eq_true rfl)) 0).trans (congrFun (f52 22 (of_decide_eq_true rfl)) 0)) ((f229 23 (of_decide_eq_true rfl)).trans (f52 23 (of_decide_eq_true rfl))) hI22
           exact by
            have I260 : jI31 σ227 := jI31_fr ((congrFun (f229 31 (of_decide_eq_true rfl)) 8).trans (congrFun (f52 31 (of_decide_eq_true rfl)) 8)) ((f229 33 (of_decide_eq_true rfl)).trans (f52 33 (of_decide_eq_true rfl))) ((f229 36 (of_decide_eq_true rfl)).trans (f52 36 (of_decide_eq_true rfl))) hI31
            have I261 : jI38 σ227 := jI38_fr ((congrFun (f229 38 (of_decide_eq_true rfl)) 0).trans (congrFun (f52 38 (of_decide_eq_true rfl)) 0)) ((congrFun (f229 38 (of_decide_eq_true rfl)) 1).trans (congrFun (f52 38 (of_decide_eq_true rfl)) 1)) ((f229 39 (of_decide_eq_true rfl)).trans (f52 39 (of_decide_eq_true rfl))) hI38
            have I262 : jI43 σ227 := jI43_fr ((congrFun (f229 43 (of_decide_eq_true rfl)) 8).trans (congrFun (f52 43 (of_decide_eq_true rfl)) 8)) hI43
            have I263 : jI47 σ227 := jI47_fr ((congrFun (f229 47 (of_decide_eq_true rfl)) 0).trans (congrFun (f52 47 (of_decide_eq_true rfl)) 0)) ((f229 48 (of_decide_eq_true rfl)).trans (f52 48 (of_decide_eq_true rfl))) ((f229 49 (of_decide_eq_true rfl)).trans (f52 49 (of_decide_eq_true rfl))) hI47
            have I264 : jI50 σ227 := jI50_fr ((f229 52 (of_decide_eq_true rfl)).trans (f52 52 (of_decide_eq_true rfl))) hI50
            have I265 : jI101 σ227 := jI101_fr ((f230 4 (of_decide_eq_true rfl)).trans (congrFun (f52 55 (of_decide_eq_true rfl)) 4)) ((f230 5 (of_decide_eq_true rfl)).trans (congrFun (f52 55 (of_decide_eq_true rfl)) 5)) ((f229 56 (of_decide_eq_true rfl)).trans (f52 56 (of_decide_eq_true rfl))) ((f229 57 (of_decide_eq_true rfl)).trans (f52 57 (of_decide_eq_true rfl))) ((f229 58 (of_decide_eq_true rfl)).trans (f52 58 (of_decide_eq_true rfl))) ((f229 59 (of_decide_eq_true rfl)).trans (f52 59 (of_decide_eq_true rfl))) hI101
            have I266 : jI102 σ227 := jI102_fr ((f230 6 (of_decide_eq_true rfl)).trans (congrFun (f52 55 (of_decide_eq_true rfl)) 6)) ((f229 60 (of_decide_eq_true rfl)).trans (f52 60 (of_decide_eq_true rfl))) ((f229 61 (of_decide_eq_true rfl)).trans (f52 61 (of_decide_eq_true rfl))) hI102
            have I267 : jI103 σ227 := jI103_fr ((f230 9 (of_decide_eq_true rfl)).trans (congrFun (f52 55 (of_decide_eq_true rfl)) 9)) hI103
            have I268 : jI104 σ227 := jI104_fr ((f230 10 (of_decide_eq_true rfl)).trans (congrFun (f52 55 (of_decide_eq_true rfl)) 10)) ((f230 12 (of_decide_eq_true rfl)).trans (congrFun (f52 55 (of_decide_eq_true rfl)) 12)) ((f230 13 (of_decide_eq_true rfl)).trans (congrFun (f52 55 (of_decide_eq_true rfl)) 13)) ((f229 62 (of_decide_eq_true rfl)).trans (f52 62 (of_decide_eq_true rfl))) ((f229 67 (of_decide_eq_true rfl)).trans (f52 67 (of_decide_eq_true rfl))) hI104
            have I269 : jI106 σ227 := jI106_fr ((f230 32 (of_decide_eq_true rfl)).trans (congrFun (f52 55 (of_decide_eq_true rfl)) 32)) ((f229 70 (of_decide_eq_true rfl)).trans (f52 70 (of_decide_eq_true rfl))) ((f229 71 (of_decide_eq_true rfl)).trans (f52 71 (of_decide_eq_true rfl))) ((f229 72 (of_decide_eq_true rfl)).trans (f52 72 (of_decide_eq_true rfl))) hI106
            have I270 : jI107 σ227 := jI107_fr ((f230 12 (of_decide_eq_true rfl)).trans (congrFun (f52 55 (of_decide_eq_true rfl)) 12)) ((f230 47 (of_decide_eq_true rfl)).trans (congrFun (f52 55 (of_decide_eq_true rfl)) 47)) ((f229 80 (of_decide_eq_true rfl)).trans (f52 80 (of_decide_eq_true rfl))) hI107
            have I271 : jI109 σ227 := jI109_fr ((f230 50 (of_decide_eq_true rfl)).trans (congrFun (f52 55 (of_decide_eq_true rfl)) 50)) hI109
            have I272 : jI110 σ227 := jI110_fr ((f229 86 (of_decide_eq_true rfl)).trans (f52 86 (of_decide_eq_true rfl))) ((f229 87 (of_decide_eq_true rfl)).trans (f52 87 (of_decide_eq_true rfl))) hI110
            have I273 : jI111 σ227 := jI111_fr ((f229 79 (of_decide_eq_true rfl)).trans (f52 79 (of_decide_eq_true rfl))) hI111
            have I274 : jI119 σ227 := jI119_fr ((f229 68 (of_decide_eq_true rfl)).trans (f52 68 (of_decide_eq_true rfl))) hI119
            have p275 : jKept σ227 := jKept.fr ((f229 75 (of_decide_eq_true rfl)).trans (f52 75 (of_decide_eq_true rfl))) ((f229 76 (of_decide_eq_true rfl)).trans (f52 76 (of_decide_eq_true rfl))) ((f229 77 (of_decide_eq_true rfl)).trans (f52 77 (of_decide_eq_true rfl))) hs_jKept
            have p276 : jBook σ227 := jBook.fr ((f230 47 (of_decide_eq_true rfl)).trans (congrFun (f52 55 (of_decide_eq_true rfl)) 47)) ((f230 10 (of_decide_eq_true rfl)).trans (congrFun (f52 55 (of_decide_eq_true rfl)) 10)) ((f229 81 (of_decide_eq_true rfl)).trans (f52 81 (of_decide_eq_true rfl))) hs_jBook
            have z277 : (σ227 2 0).toInt = (σ 2 0).toInt := (congrArg Int32.toInt (show σ227 2 0 = (σ 2 0) from ((congrFun (f229 2 (of_decide_eq_true rfl)) 0).trans (congrFun (f52 2 (of_decide_eq_true rfl)) 0))))
            have z278 : (σ227 55 6).toInt = (σ 55 6).toInt := (congrArg Int32.toInt (show σ227 55 6 = (σ 55 6) from ((f230 6 (of_decide_eq_true rfl)).trans (congrFun (f52 55 (of_decide_eq_true rfl)) 6))))
            have z279 : (σ227 2 2).toInt = (σ 2 2).toInt := (congrArg Int32.toInt (show σ227 2 2 = (σ 2 2) from ((congrFun (f229 2 (of_decide_eq_true rfl)) 2).trans (congrFun (f52 2 (of_decide_eq_true rfl)) 2))))
            have z280 : (σ227 55 5).toInt = (σ 55 5).toInt := (congrArg Int32.toInt (show σ227 55 5 = (σ 55 5) from ((f230 5 (of_decide_eq_true rfl)).trans (congrFun (f52 55 (of_decide_eq_true rfl)) 5))))
            have z281 : (σ227 2 3).toInt = (σ 2 3).toInt := (congrArg Int32.toInt (show σ227 2 3 = (σ 2 3) from ((congrFun (f229 2 (of_decide_eq_true rfl)) 3).trans (congrFun (f52 2 (of_decide_eq_true rfl)) 3))))
            have z282 : (σ227 55 4).toInt = (σ 55 4).toInt := (congrArg Int32.toInt (show σ227 55 4 = (σ 55 4) from ((f230 4 (of_decide_eq_true rfl)).trans (congrFun (f52 55 (of_decide_eq_true rfl)) 4))))
            have z283 : (σ227 9 0).toInt = (σ50 9 0).toInt := (congrArg Int32.toInt (show σ227 9 0 = (σ50 9 0) from (congrFun (f229 9 (of_decide_eq_true rfl)) 0)))
            have z284 : (σ227 16 0).toInt = (σ 16 0).toInt := (congrArg Int32.toInt (show σ227 16 0 = (σ 16 0) from ((congrFun (f229 16 (of_decide_eq_true rfl)) 0).trans (congrFun (f52 16 (of_decide_eq_true rfl)) 0))))
            have z285 : (σ227 55 10).toInt = (σ 55 10).toInt := (congrArg Int32.toInt (show σ227 55 10 = (σ 55 10) from ((f230 10 (of_decide_eq_true rfl)).trans (congrFun (f52 55 (of_decide_eq_true rfl)) 10))))
            have z286 : (σ227 16 1).toInt = (σ 16 1).toInt := (congrArg Int32.toInt (show σ227 16 1 = (σ 16 1) from ((congrFun (f229 16 (of_decide_eq_true rfl)) 1).trans (congrFun (f52 16 (of_decide_eq_true rfl)) 1))))
            have z287 : (σ227 55 12).toInt = (σ 55 12).toInt := (congrArg Int32.toInt (show σ227 55 12 = (σ 55 12) from ((f230 12 (of_decide_eq_true rfl)).trans (congrFun (f52 55 (of_decide_eq_true rfl)) 12))))
            have z288 : (σ227 16 2).toInt = (σ 16 2).toInt := (congrArg Int32.toInt (show σ227 16 2 = (σ 16 2) from ((congrFun (f229 16 (of_decide_eq_true rfl)) 2).trans (congrFun (f52 16 (of_decide_eq_true rfl)) 2))))
            have z289 : (σ227 55 13).toInt = (σ 55 13).toInt := (congrArg Int32.toInt (show σ227 55 13 = (σ 55 13) from ((f230 13 (of_decide_eq_true rfl)).trans (congrFun (f52 55 (of_decide_eq_true rfl)) 13))))
            have z290 : (σ227 38 0).toInt = (σ 38 0).toInt := (congrArg Int32.toInt (show σ227 38 0 = (σ 38 0) from ((congrFun (f229 38 (of_decide_eq_true rfl)) 0).trans (congrFun (f52 38 (of_decide_eq_true rfl)) 0))))
            have z291 : (σ227 55 32).toInt = (σ 55 32).toInt := (congrArg Int32.toInt (show σ227 55 32 = (σ 55 32) from ((f230 32 (of_decide_eq_true rfl)).trans (congrFun (f52 55 (of_decide_eq_true rfl)) 32))))
            have z292 : (σ227 38 1).toInt = (σ 38 1).toInt := (congrArg Int32.toInt (show σ227 38 1 = (σ 38 1) from ((congrFun (f229 38 (of_decide_eq_true rfl)) 1).trans (congrFun (f52 38 (of_decide_eq_true rfl)) 1))))
            have z293 : (σ227 55 55).toInt = (σ 55 55).toInt := (congrArg Int32.toInt (show σ227 55 55 = (σ 55 55) from ((f230 55 (of_decide_eq_true rfl)).trans (congrFun (f52 55 (of_decide_eq_true rfl)) 55))))
            have z294 : (σ227 47 0).toInt = (σ 47 0).toInt := (congrArg Int32.toInt (show σ227 47 0 = (σ 47 0) from ((congrFun (f229 47 (of_decide_eq_true rfl)) 0).trans (congrFun (f52 47 (of_decide_eq_true rfl)) 0))))
            have z295 : (σ227 55 47).toInt = (σ 55 47).toInt := (congrArg Int32.toInt (show σ227 55 47 = (σ 55 47) from ((f230 47 (of_decide_eq_true rfl)).trans (congrFun (f52 55 (of_decide_eq_true rfl)) 47))))
            have z296 : (σ227 55 30).toInt = (σ 55 30).toInt := (congrArg Int32.toInt (show σ227 55 30 = (σ 55 30) from ((f230 30 (of_decide_eq_true rfl)).trans (congrFun (f52 55 (of_decide_eq_true rfl)) 30))))
            have z297 : (σ227 55 31).toInt = (σ 55 31).toInt := (congrArg Int32.toInt (show σ227 55 31 = (σ 55 31) from ((f230 31 (of_decide_eq_true rfl)).trans (congrFun (f52 55 (of_decide_eq_true rfl)) 31))))
            rw [show (σ 9 0).toInt = (σ 55 15).toInt from by omega] at k223
            rw [show (σ50 55 15).toInt = (σ 55 15).toInt from by omega, show σ50 63 = σ 63 from (f52 63 (of_decide_eq_true rfl))] at k251
            exact by exact ih x253 σ227 τ _ _ ls (by have h9 := tx253; omega) ⟨I254, I255, I256, I257, I258, I259, I260, I261, I262, I263, I264, I265, I266, I267, I268, I231, I269, I270, I271, I272, I273, I274, p275, p276, (by omega), (by omega), (by omega), (by omega), (by omega), (by omega), (by omega), (by omega), (by omega), (by omega), (by omega), (by omega), (show jNumP (σ227 3) (σ227 56) (σ227 6) (σ227 57) (σ227 7) (σ227 58) (σ227 8) (σ227 59) (σ227 55 6).toInt (σ227 55 4).toInt by rw [show σ227 3 = σ 3 from ((f229 3 (of_decide_eq_true rfl)).trans (f52 3 (of_decide_eq_true rfl))), show σ227 56 = σ 56 from ((f229 56 (of_decide_eq_true rfl)).trans (f52 56 (of_decide_eq_true rfl))), show σ227 6 = σ 6 from ((f229 6 (of_decide_eq_true rfl)).trans (f52 6 (of_decide_eq_true rfl))), show σ227 57 = σ 57 from ((f229 57 (of_decide_eq_true rfl)).trans (f52 57 (of_decide_eq_true rfl))), show σ227 7 = σ 7 from ((f229 7 (of_decide_eq_true rfl)).trans (f52 7 (of_decide_eq_true rfl))), show σ227 58 = σ 58 from ((f229 58 (of_decide_eq_true rfl)).trans (f52 58 (of_decide_eq_true rfl))), show σ227 8 = σ 8 from ((f229 8 (of_decide_eq_true rfl)).trans (f52 8 (of_decide_eq_true rfl))), show σ227 59 = σ 59 from ((f229 59 (of_decide_eq_true rfl)).trans (f52 59 (of_decide_eq_true rfl))), show (σ227 55 6).toInt = (σ 55 6).toInt from by omega, show (σ227 55 4).toInt = (σ 55 4).toInt from by omega]; exact hr0), (show jOvP (σ227 56) (σ227 57) (σ227 58) (σ227 59) (σ227 55 4).toInt by rw [show σ227 56 = σ 56 from ((f229 56 (of_decide_eq_true rfl)).trans (f52 56 (of_decide_eq_true rfl))), show σ227 57 = σ 57 from ((f229 57 (of_decide_eq_true rfl)).trans (f52 57 (of_decide_eq_true rfl))), show σ227 58 = σ 58 from ((f229 58 (of_decide_eq_true rfl)).trans (f52 58 (of_decide_eq_true rfl))), show σ227 59 = σ 59 from ((f229 59 (of_decide_eq_true rfl)).trans (f52 59 (of_decide_eq_true rfl))), show (σ227 55 4).toInt = (σ 55 4).toInt from by omega]; exact hr1), (show jTp (σ227 10) (σ227 63) (σ227 55 15).toInt by rw [show σ227 10 = σ50 10 from (f229 10 (of_decide_eq_true rfl))]; exact hr2.feed k223 k251 (by omega) (by omega) (by omega)), (show jSo (σ227 17) (σ227 62) (σ227 16 0).toInt by rw [show σ227 17 = σ 17 from ((f229 17 (of_decide_eq_true rfl)).trans (f52 17 (of_decide_eq_true rfl))), show σ227 62 = σ 62 from ((f229 62 (of_decide_eq_true rfl)).trans (f52 62 (of_decide_eq_true rfl))), show (σ227 16 0).toInt = (σ 16 0).toInt from by omega]; exact hr3), (show jShP (σ227 51) (σ227 52) (σ227 53) (σ227 86) (σ227 87) (σ227 55 32).toInt by rw [show σ227 51 = σ 51 from ((f229 51 (of_decide_eq_true rfl)).trans (f52 51 (of_decide_eq_true rfl))), show σ227 52 = σ 52 from ((f229 52 (of_decide_eq_true rfl)).trans (f52 52 (of_decide_eq_true rfl))), show σ227 53 = σ 53 from ((f229 53 (of_decide_eq_true rfl)).trans (f52 53 (of_decide_eq_true rfl))), show σ227 86 = σ 86 from ((f229 86 (of_decide_eq_true rfl)).trans (f52 86 (of_decide_eq_true rfl))), show σ227 87 = σ 87 from ((f229 87 (of_decide_eq_true rfl)).trans (f52 87 (of_decide_eq_true rfl)))]; exact (hr4.up (by omega) (by omega))), (show jEl (σ227 51) (σ227 52) (τ 54) (τ 88) by rw [show σ227 51 = σ 51 from ((f229 51 (of_decide_eq_true rfl)).trans (f52 51 (of_decide_eq_true rfl))), show σ227 52 = σ 52 from ((f229 52 (of_decide_eq_true rfl)).trans (f52 52 (of_decide_eq_true rfl)))]; exact hr5), (show jByP (σ227 51) (σ227 52) (τ 54) by rw [show σ227 51 = σ 51 from ((f229 51 (of_decide_eq_true rfl)).trans (f52 51 (of_decide_eq_true rfl))), show σ227 52 = σ 52 from ((f229 52 (of_decide_eq_true rfl)).trans (f52 52 (of_decide_eq_true rfl)))]; exact hr6), (show jBk (σ227 48) (σ227 80) (σ227 49) (σ227 81) (σ227 55 47).toInt by rw [show σ227 48 = σ 48 from ((f229 48 (of_decide_eq_true rfl)).trans (f52 48 (of_decide_eq_true rfl))), show σ227 49 = σ 49 from ((f229 49 (of_decide_eq_true rfl)).trans (f52 49 (of_decide_eq_true rfl))), show σ227 80 = σ 80 from ((f229 80 (of_decide_eq_true rfl)).trans (f52 80 (of_decide_eq_true rfl))), show σ227 81 = σ 81 from ((f229 81 (of_decide_eq_true rfl)).trans (f52 81 (of_decide_eq_true rfl))), show (σ227 55 47).toInt = (σ 55 47).toInt from by omega]; exact hr7), (show jKd (σ227 39) (σ227 70) (σ227 55 32).toInt by rw [show σ227 39 = σ 39 from ((f229 39 (of_decide_eq_true rfl)).trans (f52 39 (of_decide_eq_true rfl))), show σ227 70 = σ 70 from ((f229 70 (of_decide_eq_true rfl)).trans (f52 70 (of_decide_eq_true rfl))), show (σ227 55 32).toInt = (σ 55 32).toInt from by omega]; exact hr8), (show jTt (σ227 42) (σ227 85) (σ227 55 55).toInt by rw [show σ227 42 = σ 42 from ((f229 42 (of_decide_eq_true rfl)).trans (f52 42 (of_decide_eq_true rfl))), show σ227 85 = σ 85 from ((f229 85 (of_decide_eq_true rfl)).trans (f52 85 (of_decide_eq_true rfl))), show (σ227 55 55).toInt = (σ 55 55).toInt from by omega]; exact hr9)⟩ hP hS (lv_sub hl [0, 1, 2, 3] rfl)
set_option maxHeartbeats 4000000 in
set_option maxRecDepth 100000 in
theorem law_case_5 {p : Program} {e : Env} {s : State} {m : MethodId} {below : List Frame} {meth : Method} {c : Code} (l : Launch) {b L : Nat} {xs : Nat → Int32} {D : va_G} {cI cL : ClassId} {ad zz : Nat → Nat} (C0 : lw_At p s m meth c b L xs) (hJ : jD ad) (hA : ∀ q, jA ad q → s.heap.size ≤ q) (hK : jK D cI cL s) (hZ : jZ zz (fun q : Nat => s.heap.size ≤ q) s s.heap) {x0 : Int32} (hx0 : 0 ≤ x0.toInt) (hxL : x0.toInt + 6 ≤ (L : Int)) (hL : L ≤ 384) {σ : Nat → Nat → Int32} {τ : Nat → Nat → Int64} {H : Heap} {locs : List Loc} (hS : va_S (fun q : Nat => s.heap.size ≤ q) s.heap H locs) {ls : Array Slot} (hAll : jAll σ τ) (hP : jH D cI cL ad σ τ H) (hl : lv_has ls 4 [(3, .int x0), (2, .ref (ad 55)), (1, .ref (ad 0)), (0, .ref b)]) (ih : ∀ (x1 : Int32) (σ : Nat → Nat → Int32) (τ : Nat → Nat → Int64) (H : Heap) (locs : List Loc) (ls : Array Slot), x1.toInt = x0.toInt + 6 → jAll σ τ → jH D cI cL ad σ τ H → va_S (fun q : Nat => s.heap.size ≤ q) s.heap H locs → lv_has ls 4 [(3, .int x1), (2, .ref (ad 55)), (1, .ref (ad 0)), (0, .ref b)] → W p l e room_1 s m #[Value.ref b] below meth c H locs 90 348600 (lw_Z below #[Value.ref b] s) (F0 m 18 ls [])) : W p l e room_1 s m #[Value.ref b] below meth c H locs 90 348600 (lw_Z below #[Value.ref b] s) (F0 m 381 ls []) := by
  obtain ⟨hx, hb, hr, hml, hown, hts0, hX, hbl, hlocks, hgv⟩ := C0
  have hts : ∀ w ∈ wsL_law, w.before #[Value.ref b] s = true := fun w h => hts0 w (wsL_law_in w h)
  have hbA : ¬ (fun q : Nat => s.heap.size ≤ q) b := Nat.not_le.mpr hbl
  have hown : s.vm.findClass RL = some m.cls := hown
  obtain ⟨hI2, hI9, hI12, hI16, hI18, hI22, hI31, hI38, hI43, hI47, hI50, hI101, hI102, hI103, hI104, hI105, hI106, hI107, hI109, hI110, hI111, hI119, hs_jKept, hs_jBook, ht0, ht1, ht2, ht3, ht4, ht5, ht6, ht7, ht8, ht9, ht10, ht11, hr0, hr1, hr2, hr3, hr4, hr5, hr6, hr7, hr8, hr9⟩ := hAll
  have hL9 : (L : Int) ≤ 384 := by omega
  obtain ⟨i1, i2, i3, i4, i5, w6⟩ : (0 ≤ (σ 2 0).toInt ∧ (σ 2 0).toInt ≤ 4) ∧ (0 ≤ (σ 2 1).toInt ∧ (σ 2 1).toInt ≤ 3) ∧ (0 ≤ (σ 2 2).toInt) ∧ (0 ≤ (σ 2 3).toInt) ∧ ((σ 2 2).toInt + (σ 2 3).toInt ≤ 40) ∧ (∀ k : Nat, k < 40 → 0 ≤ (σ 6 k).toInt ∧ (σ 6 k).toInt ≤ 67) := id hI2
  obtain ⟨i7, w8, w9⟩ : (0 ≤ (σ 9 0).toInt ∧ (σ 9 0).toInt ≤ 80) ∧ (∀ k : Nat, k < 80 → 0 ≤ (σ 10 k).toInt ∧ (σ 10 k).toInt ≤ 255) ∧ (∀ k : Nat, k < 8 → 0 ≤ (σ 11 k).toInt ∧ (σ 11 k).toInt ≤ 3) := id hI9
  obtain ⟨i10, i11, i12, w13⟩ : (1 ≤ (σ 16 0).toInt ∧ (σ 16 0).toInt ≤ 8) ∧ (1 ≤ (σ 16 1).toInt ∧ (σ 16 1).toInt ≤ 12) ∧ (0 ≤ (σ 16 2).toInt ∧ (σ 16 2).toInt ≤ 999) ∧ (∀ k : Nat, k < 8 → 0 ≤ (σ 17 k).toInt ∧ (σ 17 k).toInt ≤ 3) := id hI16
  obtain ⟨i14, i15, w16⟩ : (0 ≤ (σ 38 0).toInt ∧ (σ 38 0).toInt ≤ 20) ∧ (0 ≤ (σ 38 1).toInt ∧ (σ 38 1).toInt ≤ 1000) ∧ (∀ k : Nat, k < 20 → 0 ≤ (σ 39 k).toInt ∧ (σ 39 k).toInt ≤ 6) := id hI38
  obtain ⟨i17, w18, w19⟩ : (0 ≤ (σ 47 0).toInt ∧ (σ 47 0).toInt ≤ 12) ∧ (∀ k : Nat, k < 12 → 0 ≤ (σ 48 k).toInt ∧ (σ 48 k).toInt ≤ 3) ∧ (∀ k : Nat, k < 12 → 0 ≤ (σ 49 k).toInt ∧ (σ 49 k).toInt ≤ 1) := id hI47
  have w20 : ∀ k : Nat, k < 6 → 0 ≤ (σ 52 k).toInt ∧ (σ 52 k).toInt ≤ 60 := hI50
  obtain ⟨i21, i22, i23, w24, w25, w26, w27⟩ : (0 ≤ (σ 55 5).toInt) ∧ ((σ 55 5).toInt ≤ (σ 55 4).toInt) ∧ ((σ 55 4).toInt ≤ 40) ∧ (∀ k : Nat, k < 68 → (-200) ≤ (σ 56 k).toInt ∧ (σ 56 k).toInt ≤ 500) ∧ (∀ k : Nat, k < 40 → 0 ≤ (σ 57 k).toInt ∧ (σ 57 k).toInt ≤ 67) ∧ (∀ k : Nat, k < 40 → (-200) ≤ (σ 58 k).toInt ∧ (σ 58 k).toInt ≤ 500) ∧ (∀ k : Nat, k < 40 → (-200) ≤ (σ 59 k).toInt ∧ (σ 59 k).toInt ≤ 500) := id hI101
  obtain ⟨i28, w29, w30⟩ : (0 ≤ (σ 55 6).toInt ∧ (σ 55 6).toInt ≤ 4) ∧ (∀ k : Nat, k < 4 → 0 ≤ (σ 60 k).toInt ∧ (σ 60 k).toInt ≤ 50) ∧ (∀ k : Nat, k < 4 → 0 ≤ (σ 61 k).toInt ∧ (σ 61 k).toInt ≤ 20) := id hI102
  obtain ⟨i31, i32, i33, w34, w35⟩ : (1 ≤ (σ 55 10).toInt ∧ (σ 55 10).toInt ≤ 8) ∧ (1 ≤ (σ 55 12).toInt ∧ (σ 55 12).toInt ≤ 12) ∧ (0 ≤ (σ 55 13).toInt ∧ (σ 55 13).toInt ≤ 999) ∧ (∀ k : Nat, k < 8 → 0 ≤ (σ 62 k).toInt ∧ (σ 62 k).toInt ≤ 3) ∧ (∀ k : Nat, k < 8 → 0 ≤ (σ 67 k).toInt ∧ (σ 67 k).toInt ≤ 3) := id hI104
  obtain ⟨i36, w37⟩ : (0 ≤ (σ 55 15).toInt ∧ (σ 55 15).toInt ≤ 80) ∧ (∀ k : Nat, k < 2 → (-1) ≤ (σ 65 k).toInt ∧ (σ 65 k).toInt ≤ 80) := id hI105
  obtain ⟨i38, w39, w40, w41⟩ : (0 ≤ (σ 55 32).toInt ∧ (σ 55 32).toInt ≤ 20) ∧ (∀ k : Nat, k < 20 → 0 ≤ (σ 70 k).toInt ∧ (σ 70 k).toInt ≤ 6) ∧ (∀ k : Nat, k < 20 → 0 ≤ (σ 71 k).toInt ∧ (σ 71 k).toInt ≤ 8) ∧ (∀ k : Nat, k < 160 → 0 ≤ (σ 72 k).toInt ∧ (σ 72 k).toInt ≤ 3) := id hI106
  obtain ⟨i42, i43, w44⟩ : (0 ≤ (σ 55 47).toInt ∧ (σ 55 47).toInt ≤ 12) ∧ ((σ 55 47).toInt ≤ (σ 55 12).toInt) ∧ (∀ k : Nat, k < 12 → 0 ≤ (σ 80 k).toInt ∧ (σ 80 k).toInt ≤ 3) := id hI107
  refine lv_aload_n hx hb dL_law_381 rfl (lv_at hl 2 rfl) ?_
  refine jcallV (As := []) (rest := []) ⟨hx, hb, hml, hown, hts⟩ hK hP hA hS hZ (c_X11_order l D cI cL ad zz hJ σ τ hI9 hI16 hI47) cw_RL_36 (jc_0 cI cL ad σ τ) rfl ⟨Nat.le_of_ble_eq_true rfl, Nat.le_of_ble_eq_true rfl⟩ rfl rfl rfl hl.1 rfl (Nat.le_of_ble_eq_true rfl) dL_law_382 ⟨Nat.le_of_ble_eq_true rfl, Nat.le_of_ble_eq_true rfl⟩ (fun r46 σ45 τ45 H locs h45 hP hS => ?_)
  obtain ⟨rfl, f47, f48, f49, f50, I51, I52, I53, w54, h45⟩ := h45
  obtain ⟨i56, w57, w58⟩ : (0 ≤ (σ45 9 0).toInt ∧ (σ45 9 0).toInt ≤ 80) ∧ (∀ k : Nat, k < 80 → 0 ≤ (σ45 10 k).toInt ∧ (σ45 10 k).toInt ≤ 255) ∧ (∀ k : Nat, k < 8 → 0 ≤ (σ45 11 k).toInt ∧ (σ45 11 k).toInt ≤ 3) := id I51
  obtain ⟨i59, i60, i61, w62⟩ : (1 ≤ (σ45 16 0).toInt ∧ (σ45 16 0).toInt ≤ 8) ∧ (1 ≤ (σ45 16 1).toInt ∧ (σ45 16 1).toInt ≤ 12) ∧ (0 ≤ (σ45 16 2).toInt ∧ (σ45 16 2).toInt ≤ 999) ∧ (∀ k : Nat, k < 8 → 0 ≤ (σ45 17 k).toInt ∧ (σ45 17 k).toInt ≤ 3) := id I52
  obtain ⟨i63, w64, w65⟩ : (0 ≤ (σ45 47 0).toInt ∧ (σ45 47 0).toInt ≤ 12) ∧ (∀ k : Nat, k < 12 → 0 ≤ (σ45 48 k).toInt ∧ (σ45 48 k).toInt ≤ 3) ∧ (∀ k : Nat, k < 12 → 0 ≤ (σ45 49 k).toInt ∧ (σ45 49 k).toInt ≤ 1) := id I53
  obtain ⟨k66, h45⟩ := h45
  rcases h45 with h67 | h68
  · obtain ⟨q71, k69, k70⟩ := h67
    refine lv_pop hx hb dL_law_385 rfl ?_
    refine lv_aload_n hx hb dL_law_386 rfl (lv_at hl 1 rfl) ?_
    have I72 : jI104 σ45 := jI104_fr (congrFun (f47 55 (of_decide_eq_true rfl)) 10) (congrFun (f47 55 (of_decide_eq_true rfl)) 12) (congrFun (f47 55 (of_decide_eq_true rfl)) 13) (f47 62 (of_decide_eq_true rfl)) (f47 67 (of_decide_eq_true rfl)) hI104
    have I73 : jI105 σ45 := jI105_fr (congrFun (f47 55 (of_decide_eq_true rfl)) 15) (f47 65 (of_decide_eq_true rfl)) hI105
    have I74 : jI107 σ45 := jI107_fr (congrFun (f47 55 (of_decide_eq_true rfl)) 12) (congrFun (f47 55 (of_decide_eq_true rfl)) 47) (f47 80 (of_decide_eq_true rfl)) hI107
    have p75 : jBook σ45 := jBook.fr (congrFun (f47 55 (of_decide_eq_true rfl)) 47) (congrFun (f47 55 (of_decide_eq_true rfl)) 10) (f47 81 (of_decide_eq_true rfl)) hs_jBook
    have z76 : (σ45 55 47).toInt = (σ 55 47).toInt := (congrArg Int32.toInt (show σ45 55 47 = (σ 55 47) from (congrFun (f47 55 (of_decide_eq_true rfl)) 47)))
    refine jcallV (As := []) (rest := []) ⟨hx, hb, hml, hown, hts⟩ hK hP hA hS hZ (c_X12_order l D cI cL ad zz hJ σ45 τ I72 I73 I74 p75) cw_RL_40 (jc_55 cI cL ad σ45 τ) rfl ⟨Nat.le_of_ble_eq_true rfl, Nat.le_of_ble_eq_true rfl⟩ rfl rfl rfl hl.1 rfl (Nat.le_of_ble_eq_true rfl) dL_law_387 ⟨Nat.le_of_ble_eq_true rfl, Nat.le_of_ble_eq_true rfl⟩ (fun r78 σ77 τ77 H locs h77 hP hS => ?_)
    obtain ⟨rfl, f79, f80, I81, I82, I83, p84, w85, h77⟩ := h77
    obtain ⟨i87, i88, i89, w90, w91⟩ : (1 ≤ (σ77 55 10).toInt ∧ (σ77 55 10).toInt ≤ 8) ∧ (1 ≤ (σ77 55 12).toInt ∧ (σ77 55 12).toInt ≤ 12) ∧ (0 ≤ (σ77 55 13).toInt ∧ (σ77 55 13).toInt ≤ 999) ∧ (∀ k : Nat, k < 8 → 0 ≤ (σ77 62 k).toInt ∧ (σ77 62 k).toInt ≤ 3) ∧ (∀ k : Nat, k < 8 → 0 ≤ (σ77 67 k).toInt ∧ (σ77 67 k).toInt ≤ 3) := id I81
    obtain ⟨i92, w93⟩ : (0 ≤ (σ77 55 15).toInt ∧ (σ77 55 15).toInt ≤ 80) ∧ (∀ k : Nat, k < 2 → (-1) ≤ (σ77 65 k).toInt ∧ (σ77 65 k).toInt ≤ 80) := id I82
    obtain ⟨i94, i95, w96⟩ : (0 ≤ (σ77 55 47).toInt ∧ (σ77 55 47).toInt ≤ 12) ∧ ((σ77 55 47).toInt ≤ (σ77 55 12).toInt) ∧ (∀ k : Nat, k < 12 → 0 ≤ (σ77 80 k).toInt ∧ (σ77 80 k).toInt ≤ 3) := id I83
    have z97 : (σ45 55 10).toInt = (σ 55 10).toInt := (congrArg Int32.toInt (show σ45 55 10 = (σ 55 10) from (congrFun (f47 55 (of_decide_eq_true rfl)) 10)))
    have z98 : (σ45 55 12).toInt = (σ 55 12).toInt := (congrArg Int32.toInt (show σ45 55 12 = (σ 55 12) from (congrFun (f47 55 (of_decide_eq_true rfl)) 12)))
    have z99 : (σ45 55 13).toInt = (σ 55 13).toInt := (congrArg Int32.toInt (show σ45 55 13 = (σ 55 13) from (congrFun (f47 55 (of_decide_eq_true rfl)) 13)))
    have z100 : (σ45 55 15).toInt = (σ 55 15).toInt := (congrArg Int32.toInt (show σ45 55 15 = (σ 55 15) from (congrFun (f47 55 (of_decide_eq_true rfl)) 15)))
    rw [show (σ45 55 10).toInt = (σ 55 10).toInt from by omega, show (σ45 55 12).toInt = (σ 55 12).toInt from by omega, show (σ45 55 13).toInt = (σ 55 13).toInt from by omega, show (σ45 55 15).toInt = (σ 55 15).toInt from by omega, show σ45 63 = σ 63 from (f47 63 (of_decide_eq_true rfl)), show σ45 62 = σ 62 from (f47 62 (of_decide_eq_true rfl))] at w85
    rw [show (σ 9 0).toInt = (σ 55 15).toInt from by omega] at w54
    exact by
     have p101 := hr2 |> fun h => jOrA.det h w54 w85 (by omega) (by omega) (by omega) hr3
     obtain ⟨k102, k103, k104, k105, p101⟩ := p101
     obtain ⟨k106, h77⟩ := h77
     rcases h77 with h107 | h108
     · obtain ⟨q111, k109, k110⟩ := h107
       refine lv_pop hx hb dL_law_390 rfl ?_
       refine lv_goto (tgt := 1357) hx hb dL_law_391 (of_decide_eq_true rfl) ?_
       obtain ⟨x112, ex112⟩ : ∃ y : Int32, y = x0 + 6 := ⟨_, rfl⟩
       have tx112 : x112.toInt = x0.toInt + 6 := (jadd ex112 rfl jz_6 (by omega) (by omega)).trans (by omega)
       exact by
        refine lv_iinc (v := x112) (lv' := [(3, .int x112), (2, .ref (ad 55)), (1, .ref (ad 0)), (0, .ref b)]) hx hb dL_law_1357 hl (k := 0) rfl (by rw [ex112]; rfl) (of_decide_eq_true rfl) rfl (fun ls hl => ?_)
        refine lv_goto (tgt := 18) hx hb dL_law_1360 (of_decide_eq_true rfl) ?_
        have I113 : jI2 σ77 := jI2_fr ((congrFun (f79 2 (of_decide_eq_true rfl)) 0).trans (congrFun (f47 2 (of_decide_eq_true rfl)) 0)) ((congrFun (f79 2 (of_decide_eq_true rfl)) 1).trans (congrFun (f47 2 (of_decide_eq_true rfl)) 1)) ((congrFun (f79 2 (of_decide_eq_true rfl)) 2).trans (congrFun (f47 2 (of_decide_eq_true rfl)) 2)) ((congrFun (f79 2 (of_decide_eq_true rfl)) 3).trans (congrFun (f47 2 (of_decide_eq_true rfl)) 3)) ((f79 6 (of_decide_eq_true rfl)).trans (f47 6 (of_decide_eq_true rfl))) hI2
        have I114 : jI9 σ77 := jI9_fr (congrFun (f79 9 (of_decide_eq_true rfl)) 0) (f79 10 (of_decide_eq_true rfl)) (f79 11 (of_decide_eq_true rfl)) I51
        have I115 : jI12 σ77 := jI12_fr ((congrFun (f79 12 (of_decide_eq_true rfl)) 0).trans (congrFun (f47 12 (of_decide_eq_true rfl)) 0)) ((f79 13 (of_decide_eq_true rfl)).trans (f47 13 (of_decide_eq_true rfl))) hI12
        have I116 : jI16 σ77 := jI16_fr (congrFun (f79 16 (of_decide_eq_true rfl)) 0) (congrFun (f79 16 (of_decide_eq_true rfl)) 1) (congrFun (f79 16 (of_decide_eq_true rfl)) 2) (f79 17 (of_decide_eq_true rfl)) I52
        have I117 : jI18 σ77 := jI18_fr ((congrFun (f79 18 (of_decide_eq_true rfl)) 0).trans (congrFun (f47 18 (of_decide_eq_true rfl)) 0)) ((f79 19 (of_decide_eq_true rfl)).trans (f47 19 (of_decide_eq_true rfl))) hI18
        have I118 : jI22 σ77 := jI22_fr ((congrFun (f79 22 (of_decide_eq_true rfl)) 0).trans (congrFun (f47 22 (of_decide_eq_true rfl)) 0)) ((f79 23 (of_decide_eq_true rfl)).trans (f47 23 (of_decide_eq_true rfl))) hI22
        have I119 : jI31 σ77 := jI31_fr ((congrFun (f79 31 (of_decide_eq_true rfl)) 8).trans (congrFun (f47 31 (of_decide_eq_true rfl)) 8)) ((f79 33 (of_decide_eq_true rfl)).trans (f47 33 (of_decide_eq_true rfl))) ((f79 36 (of_decide_eq_true rfl)).trans (f47 36 (of_decide_eq_true rfl))) hI31
        have I120 : jI38 σ77 := jI38_fr ((congrFun (f79 38 (of_decide_eq_true rfl)) 0).trans (congrFun (f47 38 (of_decide_eq_true rfl)) 0)) ((congrFun (f79 38 (of_decide_eq_true rfl)) 1).trans (congrFun (f47 38 (of_decide_eq_true rfl)) 1)) ((f79 39 (of_decide_eq_true rfl)).trans (f47 39 (of_decide_eq_true rfl))) hI38
        have I121 : jI43 σ77 := jI43_fr ((congrFun (f79 43 (of_decide_eq_true rfl)) 8).trans (congrFun (f47 43 (of_decide_eq_true rfl)) 8)) hI43
        have I122 : jI47 σ77 := jI47_fr (congrFun (f79 47 (of_decide_eq_true rfl)) 0) (f79 48 (of_decide_eq_true rfl)) (f79 49 (of_decide_eq_true rfl)) I53
        have I123 : jI50 σ77 := jI50_fr ((f79 52 (of_decide_eq_true rfl)).trans (f47 52 (of_decide_eq_true rfl))) hI50
        have I124 : jI101 σ77 := jI101_fr ((f80 4 (of_decide_eq_true rfl)).trans (congrFun (f47 55 (of_decide_eq_true rfl)) 4)) ((f80 5 (of_decide_eq_true rfl)).trans (congrFun (f47 55 (of_decide_eq_true rfl)) 5)) ((f79 56 (of_decide_eq_true rfl)).trans (f47 56 (of_decide_eq_true rfl))) ((f79 57 (of_decide_eq_true rfl)).trans (f47 57 (of_decide_eq_true rfl))) ((f79 58 (of_decide_eq_true rfl)).trans (f47 58 (of_decide_eq_true rfl))) ((f79 59 (of_decide_eq_true rfl)).trans (f47 59 (of_decide_eq_true rfl))) hI101
        have I125 : jI102 σ77 := jI102_fr ((f80 6 (of_decide_eq_true rfl)).trans (congrFun (f47 55 (of_decide_eq_true rfl)) 6)) ((f79 60 (of_decide_eq_true rfl)).trans (f47 60 (of_decide_eq_true rfl))) ((f79 61 (of_decide_eq_true rfl)).trans (f47 61 (of_decide_eq_true rfl))) hI102
        have I126 : jI103 σ77 := jI103_fr ((f80 9 (of_decide_eq_true rfl)).trans (congrFun (f47 55 (of_decide_eq_true rfl)) 9)) hI103
        have I127 : jI106 σ77 := jI106_fr ((f80 32 (of_decide_eq_true rfl)).trans (congrFun (f47 55 (of_decide_eq_true rfl)) 32)) ((f79 70 (of_decide_eq_true rfl)).trans (f47 70 (of_decide_eq_true rfl))) ((f79 71 (of_decide_eq_true rfl)).trans (f47 71 (of_decide_eq_true rfl))) ((f79 72 (of_decide_eq_true rfl)).trans (f47 72 (of_decide_eq_true rfl))) hI106
        have I128 : jI109 σ77 := jI109_fr ((f80 50 (of_decide_eq_true rfl)).trans (congrFun (f47 55 (of_decide_eq_true rfl)) 50)) hI109
        have I129 : jI110 σ77 := jI110_fr ((f79 86 (of_decide_eq_true rfl)).trans (f47 86 (of_decide_eq_true rfl))) ((f79 87 (of_decide_eq_true rfl)).trans (f47 87 (of_decide_eq_true rfl))) hI110
        have I130 : jI111 σ77 := jI111_fr ((f79 79 (of_decide_eq_true rfl)).trans (f47 79 (of_decide_eq_true rfl))) hI111
        have I131 : jI119 σ77 := jI119_fr ((f79 68 (of_decide_eq_true rfl)).trans (f47 68 (of_decide_eq_true rfl))) hI119
        have p132 : jKept σ77 := jKept.fr ((f79 75 (of_decide_eq_true rfl)).trans (f47 75 (of_decide_eq_true rfl))) ((f79 76 (of_decide_eq_true rfl)).trans (f47 76 (of_decide_eq_true rfl))) ((f79 77 (of_decide_eq_true rfl)).trans (f47 77 (of_decide_eq_true rfl))) hs_jKept
        have z133 : (σ77 2 0).toInt = (σ 2 0).toInt := (congrArg Int32.toInt (show σ77 2 0 = (σ 2 0) from ((congrFun (f79 2 (of_decide_eq_true rfl)) 0).trans (congrFun (f47 2 (of_decide_eq_true rfl)) 0))))
        have z134 : (σ77 55 6).toInt = (σ 55 6).toInt := (congrArg Int32.toInt (show σ77 55 6 = (σ 55 6) from ((f80 6 (of_decide_eq_true rfl)).trans (congrFun (f47 55 (of_decide_eq_true rfl)) 6))))
        have z135 : (σ77 2 2).toInt = (σ 2 2).toInt := (congrArg Int32.toInt (show σ77 2 2 = (σ 2 2) from ((congrFun (f79 2 (of_decide_eq_true rfl)) 2).trans (congrFun (f47 2 (of_decide_eq_true rfl)) 2))))
        have z136 : (σ77 55 5).toInt = (σ 55 5).toInt := (congrArg Int32.toInt (show σ77 55 5 = (σ 55 5) from ((f80 5 (of_decide_eq_true rfl)).trans (congrFun (f47 55 (of_decide_eq_true rfl)) 5))))
        have z137 : (σ77 2 3).toInt = (σ 2 3).toInt := (congrArg Int32.toInt (show σ77 2 3 = (σ 2 3) from ((congrFun (f79 2 (of_decide_eq_true rfl)) 3).trans (congrFun (f47 2 (of_decide_eq_true rfl)) 3))))
        have z138 : (σ77 55 4).toInt = (σ 55 4).toInt := (congrArg Int32.toInt (show σ77 55 4 = (σ 55 4) from ((f80 4 (of_decide_eq_true rfl)).trans (congrFun (f47 55 (of_decide_eq_true rfl)) 4))))
        have z139 : (σ77 9 0).toInt = (σ45 9 0).toInt := (congrArg Int32.toInt (show σ77 9 0 = (σ45 9 0) from (congrFun (f79 9 (of_decide_eq_true rfl)) 0)))
        have z140 : (σ77 16 0).toInt = (σ45 16 0).toInt := (congrArg Int32.toInt (show σ77 16 0 = (σ45 16 0) from (congrFun (f79 16 (of_decide_eq_true rfl)) 0)))
        have z141 : (σ77 16 1).toInt = (σ45 16 1).toInt := (congrArg Int32.toInt (show σ77 16 1 = (σ45 16 1) from (congrFun (f79 16 (of_decide_eq_true rfl)) 1)))
        have z142 : (σ77 16 2).toInt = (σ45 16 2).toInt := (congrArg Int32.toInt (show σ77 16 2 = (σ45 16 2) from (congrFun (f79 16 (of_decide_eq_true rfl)) 2)))
        have z143 : (σ77 38 0).toInt = (σ 38 0).toInt := (congrArg Int32.toInt (show σ77 38 0 = (σ 38 0) from ((congrFun (f79 38 (of_decide_eq_true rfl)) 0).trans (congrFun (f47 38 (of_decide_eq_true rfl)) 0))))
        have z144 : (σ77 55 32).toInt = (σ 55 32).toInt := (congrArg Int32.toInt (show σ77 55 32 = (σ 55 32) from ((f80 32 (of_decide_eq_true rfl)).trans (congrFun (f47 55 (of_decide_eq_true rfl)) 32))))
        have z145 : (σ77 38 1).toInt = (σ 38 1).toInt := (congrArg Int32.toInt (show σ77 38 1 = (σ 38 1) from ((congrFun (f79 38 (of_decide_eq_true rfl)) 1).trans (congrFun (f47 38 (of_decide_eq_true rfl)) 1))))
        have z146 : (σ77 55 55).toInt = (σ 55 55).toInt := (congrArg Int32.toInt (show σ77 55 55 = (σ 55 55) from ((f80 55 (of_decide_eq_true rfl)).trans (congrFun (f47 55 (of_decide_eq_true rfl)) 55))))
        have z147 : (σ77 47 0).toInt = (σ45 47 0).toInt := (congrArg Int32.toInt (show σ77 47 0 = (σ45 47 0) from (congrFun (f79 47 (of_decide_eq_true rfl)) 0)))
        have z148 : (σ77 55 30).toInt = (σ 55 30).toInt := (congrArg Int32.toInt (show σ77 55 30 = (σ 55 30) from ((f80 30 (of_decide_eq_true rfl)).trans (congrFun (f47 55 (of_decide_eq_true rfl)) 30))))
        have z149 : (σ77 55 31).toInt = (σ 55 31).toInt := (congrArg Int32.toInt (show σ77 55 31 = (σ 55 31) from ((f80 31 (of_decide_eq_true rfl)).trans (congrFun (f47 55 (of_decide_eq_true rfl)) 31))))
        exact by exact ih x112 σ77 τ _ _ ls (by have h9 := tx112; omega) ⟨I113, I114, I115, I116, I117, I118, I119, I120, I121, I122, I123, I124, I125, I126, I81, I82, I127, I83, I128, I129, I130, I131, p132, p84, (by omega), (by omega), (by omega), (by omega), (by omega), (by omega), (by omega), (by omega), (by omega), (by omega), (by omega), (by omega), (show jNumP (σ77 3) (σ77 56) (σ77 6) (σ77 57) (σ77 7) (σ77 58) (σ77 8) (σ77 59) (σ77 55 6).toInt (σ77 55 4).toInt by rw [show σ77 3 = σ 3 from ((f79 3 (of_decide_eq_true rfl)).trans (f47 3 (of_decide_eq_true rfl))), show σ77 56 = σ 56 from ((f79 56 (of_decide_eq_true rfl)).trans (f47 56 (of_decide_eq_true rfl))), show σ77 6 = σ 6 from ((f79 6 (of_decide_eq_true rfl)).trans (f47 6 (of_decide_eq_true rfl))), show σ77 57 = σ 57 from ((f79 57 (of_decide_eq_true rfl)).trans (f47 57 (of_decide_eq_true rfl))), show σ77 7 = σ 7 from ((f79 7 (of_decide_eq_true rfl)).trans (f47 7 (of_decide_eq_true rfl))), show σ77 58 = σ 58 from ((f79 58 (of_decide_eq_true rfl)).trans (f47 58 (of_decide_eq_true rfl))), show σ77 8 = σ 8 from ((f79 8 (of_decide_eq_true rfl)).trans (f47 8 (of_decide_eq_true rfl))), show σ77 59 = σ 59 from ((f79 59 (of_decide_eq_true rfl)).trans (f47 59 (of_decide_eq_true rfl))), show (σ77 55 6).toInt = (σ 55 6).toInt from by omega, show (σ77 55 4).toInt = (σ 55 4).toInt from by omega]; exact hr0), (show jOvP (σ77 56) (σ77 57) (σ77 58) (σ77 59) (σ77 55 4).toInt by rw [show σ77 56 = σ 56 from ((f79 56 (of_decide_eq_true rfl)).trans (f47 56 (of_decide_eq_true rfl))), show σ77 57 = σ 57 from ((f79 57 (of_decide_eq_true rfl)).trans (f47 57 (of_decide_eq_true rfl))), show σ77 58 = σ 58 from ((f79 58 (of_decide_eq_true rfl)).trans (f47 58 (of_decide_eq_true rfl))), show σ77 59 = σ 59 from ((f79 59 (of_decide_eq_true rfl)).trans (f47 59 (of_decide_eq_true rfl))), show (σ77 55 4).toInt = (σ 55 4).toInt from by omega]; exact hr1), (show jTp (σ77 10) (σ77 63) (σ77 55 15).toInt by rw [show σ77 10 = σ 10 from ((f79 10 (of_decide_eq_true rfl)).trans (f47 10 (of_decide_eq_true rfl))), show σ77 63 = σ 63 from ((f79 63 (of_decide_eq_true rfl)).trans (f47 63 (of_decide_eq_true rfl)))]; exact hr2.le (by omega)), (show jSo (σ77 17) (σ77 62) (σ77 16 0).toInt by rw [show σ77 17 = σ45 17 from (f79 17 (of_decide_eq_true rfl)), show (σ77 16 0).toInt = (σ45 16 0).toInt from by omega]; exact p101), (show jShP (σ77 51) (σ77 52) (σ77 53) (σ77 86) (σ77 87) (σ77 55 32).toInt by rw [show σ77 51 = σ 51 from ((f79 51 (of_decide_eq_true rfl)).trans (f47 51 (of_decide_eq_true rfl))), show σ77 52 = σ 52 from ((f79 52 (of_decide_eq_true rfl)).trans (f47 52 (of_decide_eq_true rfl))), show σ77 53 = σ 53 from ((f79 53 (of_decide_eq_true rfl)).trans (f47 53 (of_decide_eq_true rfl))), show σ77 86 = σ 86 from ((f79 86 (of_decide_eq_true rfl)).trans (f47 86 (of_decide_eq_true rfl))), show σ77 87 = σ 87 from ((f79 87 (of_decide_eq_true rfl)).trans (f47 87 (of_decide_eq_true rfl)))]; exact (hr4.up (by omega) (by omega))), (show jEl (σ77 51) (σ77 52) (τ 54) (τ 88) by rw [show σ77 51 = σ 51 from ((f79 51 (of_decide_eq_true rfl)).trans (f47 51 (of_decide_eq_true rfl))), show σ77 52 = σ 52 from ((f79 52 (of_decide_eq_true rfl)).trans (f47 52 (of_decide_eq_true rfl)))]; exact hr5), (show jByP (σ77 51) (σ77 52) (τ 54) by rw [show σ77 51 = σ 51 from ((f79 51 (of_decide_eq_true rfl)).trans (f47 51 (of_decide_eq_true rfl))), show σ77 52 = σ 52 from ((f79 52 (of_decide_eq_true rfl)).trans (f47 52 (of_decide_eq_true rfl)))]; exact hr6), (show jBk (σ77 48) (σ77 80) (σ77 49) (σ77 81) (σ77 55 47).toInt from (Or.elim (show (σ77 55 47).toInt = (σ 55 47).toInt ∨ (σ77 55 47).toInt ≤ 0 by omega) (fun z => by rw [show σ77 48 = σ 48 from ((f79 48 (of_decide_eq_true rfl)).trans (f47 48 (of_decide_eq_true rfl))), show σ77 49 = σ 49 from ((f79 49 (of_decide_eq_true rfl)).trans (f47 49 (of_decide_eq_true rfl))), show σ77 80 = σ 80 from ((f79 80 (of_decide_eq_true rfl)).trans (f47 80 (of_decide_eq_true rfl))), show σ77 81 = σ 81 from ((f79 81 (of_decide_eq_true rfl)).trans (f47 81 (of_decide_eq_true rfl))), z]; exact hr7) (fun z => jBk.nil z))), (show jKd (σ77 39) (σ77 70) (σ77 55 32).toInt by rw [show σ77 39 = σ 39 from ((f79 39 (of_decide_eq_true rfl)).trans (f47 39 (of_decide_eq_true rfl))), show σ77 70 = σ 70 from ((f79 70 (of_decide_eq_true rfl)).trans (f47 70 (of_decide_eq_true rfl))), show (σ77 55 32).toInt = (σ 55 32).toInt from by omega]; exact hr8), (show jTt (σ77 42) (σ77 85) (σ77 55 55).toInt by rw [show σ77 42 = σ 42 from ((f79 42 (of_decide_eq_true rfl)).trans (f47 42 (of_decide_eq_true rfl))), show σ77 85 = σ 85 from ((f79 85 (of_decide_eq_true rfl)).trans (f47 85 (of_decide_eq_true rfl))), show (σ77 55 55).toInt = (σ 55 55).toInt from by omega]; exact hr9)⟩ hP hS (lv_sub hl [0, 1, 2, 3] rfl)
     · obtain ⟨q153, k151, k152⟩ := h108
       exact absurd (by omega : False) id
  · obtain ⟨q156, k154, k155⟩ := h68
    refine lv_pop hx hb dL_law_385 rfl ?_
    refine lv_aload_n hx hb dL_law_386 rfl (lv_at hl 1 rfl) ?_
    have I157 : jI104 σ45 := jI104_fr (congrFun (f47 55 (of_decide_eq_true rfl)) 10) (congrFun (f47 55 (of_decide_eq_true rfl)) 12) (congrFun (f47 55 (of_decide_eq_true rfl)) 13) (f47 62 (of_decide_eq_true rfl)) (f47 67 (of_decide_eq_true rfl)) hI104
    have I158 : jI105 σ45 := jI105_fr (congrFun (f47 55 (of_decide_eq_true rfl)) 15) (f47 65 (of_decide_eq_true rfl)) hI105
    have I159 : jI107 σ45 := jI107_fr (congrFun (f47 55 (of_decide_eq_true rfl)) 12) (congrFun (f47 55 (of_decide_eq_true rfl)) 47) (f47 80 (of_decide_eq_true rfl)) hI107
    have p160 : jBook σ45 := jBook.fr (congrFun (f47 55 (of_decide_eq_true rfl)) 47) (congrFun (f47 55 (of_decide_eq_true rfl)) 10) (f47 81 (of_decide_eq_true rfl)) hs_jBook
    have z161 : (σ45 55 47).toInt = (σ 55 47).toInt := (congrArg Int32.toInt (show σ45 55 47 = (σ 55 47) from (congrFun (f47 55 (of_decide_eq_true rfl)) 47)))
    refine jcallV (As := []) (rest := []) ⟨hx, hb, hml, hown, hts⟩ hK hP hA hS hZ (c_X12_order l D cI cL ad zz hJ σ45 τ I157 I158 I159 p160) cw_RL_40 (jc_55 cI cL ad σ45 τ) rfl ⟨Nat.le_of_ble_eq_true rfl, Nat.le_of_ble_eq_true rfl⟩ rfl rfl rfl hl.1 rfl (Nat.le_of_ble_eq_true rfl) dL_law_387 ⟨Nat.le_of_ble_eq_true rfl, Nat.le_of_ble_eq_true rfl⟩ (fun r163 σ162 τ162 H locs h162 hP hS => ?_)
    obtain ⟨rfl, f164, f165, I166, I167, I168, p169, w170, h162⟩ := h162
    obtain ⟨i172, i173, i174, w175, w176⟩ : (1 ≤ (σ162 55 10).toInt ∧ (σ162 55 10).toInt ≤ 8) ∧ (1 ≤ (σ162 55 12).toInt ∧ (σ162 55 12).toInt ≤ 12) ∧ (0 ≤ (σ162 55 13).toInt ∧ (σ162 55 13).toInt ≤ 999) ∧ (∀ k : Nat, k < 8 → 0 ≤ (σ162 62 k).toInt ∧ (σ162 62 k).toInt ≤ 3) ∧ (∀ k : Nat, k < 8 → 0 ≤ (σ162 67 k).toInt ∧ (σ162 67 k).toInt ≤ 3) := id I166
    obtain ⟨i177, w178⟩ : (0 ≤ (σ162 55 15).toInt ∧ (σ162 55 15).toInt ≤ 80) ∧ (∀ k : Nat, k < 2 → (-1) ≤ (σ162 65 k).toInt ∧ (σ162 65 k).toInt ≤ 80) := id I167
    obtain ⟨i179, i180, w181⟩ : (0 ≤ (σ162 55 47).toInt ∧ (σ162 55 47).toInt ≤ 12) ∧ ((σ162 55 47).toInt ≤ (σ162 55 12).toInt) ∧ (∀ k : Nat, k < 12 → 0 ≤ (σ162 80 k).toInt ∧ (σ162 80 k).toInt ≤ 3) := id I168
    have z182 : (σ45 55 10).toInt = (σ 55 10).toInt := (congrArg Int32.toInt (show σ45 55 10 = (σ 55 10) from (congrFun (f47 55 (of_decide_eq_true rfl)) 10)))
    have z183 : (σ45 55 12).toInt = (σ 55 12).toInt := (congrArg Int32.toInt (show σ45 55 12 = (σ 55 12) from (congrFun (f47 55 (of_decide_eq_true rfl)) 12)))
    have z184 : (σ45 55 13).toInt = (σ 55 13).toInt := (congrArg Int32.toInt (show σ45 55 13 = (σ 55 13) from (congrFun (f47 55 (of_decide_eq_true rfl)) 13)))
    have z185 : (σ45 55 15).toInt = (σ 55 15).toInt := (congrArg Int32.toInt (show σ45 55 15 = (σ 55 15) from (congrFun (f47 55 (of_decide_eq_true rfl)) 15)))
    rw [show (σ45 55 10).toInt = (σ 55 10).toInt from by omega, show (σ45 55 12).toInt = (σ 55 12).toInt from by omega, show (σ45 55 13).toInt = (σ 55 13).toInt from by omega, show (σ45 55 15).toInt = (σ 55 15).toInt from by omega, show σ45 63 = σ 63 from (f47 63 (of_decide_eq_true rfl)), show σ45 62 = σ 62 from (f47 62 (of_decide_eq_true rfl))] at w170
    rw [show (σ 9 0).toInt = (σ 55 15).toInt from by omega] at w54
    exact by
     have p186 := hr2 |> fun h => jOrA.det h w54 w170 (by omega) (by omega) (by omega) hr3
     obtain ⟨k187, k188, k189, k190, p186⟩ := p186
     obtain ⟨k191, h162⟩ := h162
     rcases h162 with h192 | h193
     · obtain ⟨q196, k194, k195⟩ := h192
       exact absurd (by omega : False) id
     · obtain ⟨q199, k197, k198⟩ := h193
       refine lv_pop hx hb dL_law_390 rfl ?_
       refine lv_goto (tgt := 1357) hx hb dL_law_391 (of_decide_eq_true rfl) ?_
       obtain ⟨x200, ex200⟩ : ∃ y : Int32, y = x0 + 6 := ⟨_, rfl⟩
       exact by
        have tx200 : x200.toInt = x0.toInt + 6 := (jadd ex200 rfl jz_6 (by omega) (by omega)).trans (by omega)
        refine lv_iinc (v := x200) (lv' := [(3, .int x200), (2, .ref (ad 55)), (1, .ref (ad 0)), (0, .ref b)]) hx hb dL_law_1357 hl (k := 0) rfl (by rw [ex200]; rfl) (of_decide_eq_true rfl) rfl (fun ls hl => ?_)
        refine lv_goto (tgt := 18) hx hb dL_law_1360 (of_decide_eq_true rfl) ?_
        have I201 : jI2 σ162 := jI2_fr ((congrFun (f164 2 (of_decide_eq_true rfl)) 0).trans (congrFun (f47 2 (of_decide_eq_true rfl)) 0)) ((congrFun (f164 2 (of_decide_eq_true rfl)) 1).trans (congrFun (f47 2 (of_decide_eq_true rfl)) 1)) ((congrFun (f164 2 (of_decide_eq_true rfl)) 2).trans (congrFun (f47 2 (of_decide_eq_true rfl)) 2)) ((congrFun (f164 2 (of_decide_eq_true rfl)) 3).trans (congrFun (f47 2 (of_decide_eq_true rfl)) 3)) ((f164 6 (of_decide_eq_true rfl)).trans (f47 6 (of_decide_eq_true rfl))) hI2
        have I202 : jI9 σ162 := jI9_fr (congrFun (f164 9 (of_decide_eq_true rfl)) 0) (f164 10 (of_decide_eq_true rfl)) (f164 11 (of_decide_eq_true rfl)) I51
        have I203 : jI12 σ162 := jI12_fr ((congrFun (f164 12 (of_decide_eq_true rfl)) 0).trans (congrFun (f47 12 (of_decide_eq_true rfl)) 0)) ((f164 13 (of_decide_eq_true rfl)).trans (f47 13 (of_decide_eq_true rfl))) hI12
        have I204 : jI16 σ162 := jI16_fr (congrFun (f164 16 (of_decide_eq_true rfl)) 0) (congrFun (f164 16 (of_decide_eq_true rfl)) 1) (congrFun (f164 16 (of_decide_eq_true rfl)) 2) (f164 17 (of_decide_eq_true rfl)) I52
        have I205 : jI18 σ162 := jI18_fr ((congrFun (f164 18 (of_decide_eq_true rfl)) 0).trans (congrFun (f47 18 (of_decide_eq_true rfl)) 0)) ((f164 19 (of_decide_eq_true rfl)).trans (f47 19 (of_decide_eq_true rfl))) hI18
        have I206 : jI22 σ162 := jI22_fr ((congrFun (f164 22 (of_decide_eq_true rfl)) 0).trans (congrFun (f47 22 (of_decide_eq_true rfl)) 0)) ((f164 23 (of_decide_eq_true rfl)).trans (f47 23 (of_decide_eq_true rfl))) hI22
        exact by
         have I207 : jI31 σ162 := jI31_fr ((congrFun (f164 31 (of_decide_eq_true rfl)) 8).trans (congrFun (f47 31 (of_decide_eq_true rfl)) 8)) ((f164 33 (of_decide_eq_true rfl)).trans (f47 33 (of_decide_eq_true rfl))) ((f164 36 (of_decide_eq_true rfl)).trans (f47 36 (of_decide_eq_true rfl))) hI31
         have I208 : jI38 σ162 := jI38_fr ((congrFun (f164 38 (of_decide_eq_true rfl)) 0).trans (congrFun (f47 38 (of_decide_eq_true rfl)) 0)) ((congrFun (f164 38 (of_decide_eq_true rfl)) 1).trans (congrFun (f47 38 (of_decide_eq_true rfl)) 1)) ((f164 39 (of_decide_eq_true rfl)).trans (f47 39 (of_decide_eq_true rfl))) hI38
         have I209 : jI43 σ162 := jI43_fr ((congrFun (f164 43 (of_decide_eq_true rfl)) 8).trans (congrFun (f47 43 (of_decide_eq_true rfl)) 8)) hI43
         have I210 : jI47 σ162 := jI47_fr (congrFun (f164 47 (of_decide_eq_true rfl)) 0) (f164 48 (of_decide_eq_true rfl)) (f164 49 (of_decide_eq_true rfl)) I53
         have I211 : jI50 σ162 := jI50_fr ((f164 52 (of_decide_eq_true rfl)).trans (f47 52 (of_decide_eq_true rfl))) hI50
         have I212 : jI101 σ162 := jI101_fr ((f165 4 (of_decide_eq_true rfl)).trans (congrFun (f47 55 (of_decide_eq_true rfl)) 4)) ((f165 5 (of_decide_eq_true rfl)).trans (congrFun (f47 55 (of_decide_eq_true rfl)) 5)) ((f164 56 (of_decide_eq_true rfl)).trans (f47 56 (of_decide_eq_true rfl))) ((f164 57 (of_decide_eq_true rfl)).trans (f47 57 (of_decide_eq_true rfl))) ((f164 58 (of_decide_eq_true rfl)).trans (f47 58 (of_decide_eq_true rfl))) ((f164 59 (of_decide_eq_true rfl)).trans (f47 59 (of_decide_eq_true rfl))) hI101
         have I213 : jI102 σ162 := jI102_fr ((f165 6 (of_decide_eq_true rfl)).trans (congrFun (f47 55 (of_decide_eq_true rfl)) 6)) ((f164 60 (of_decide_eq_true rfl)).trans (f47 60 (of_decide_eq_true rfl))) ((f164 61 (of_decide_eq_true rfl)).trans (f47 61 (of_decide_eq_true rfl))) hI102
         have I214 : jI103 σ162 := jI103_fr ((f165 9 (of_decide_eq_true rfl)).trans (congrFun (f47 55 (of_decide_eq_true rfl)) 9)) hI103
         have I215 : jI106 σ162 := jI106_fr ((f165 32 (of_decide_eq_true rfl)).trans (congrFun (f47 55 (of_decide_eq_true rfl)) 32)) ((f164 70 (of_decide_eq_true rfl)).trans (f47 70 (of_decide_eq_true rfl))) ((f164 71 (of_decide_eq_true rfl)).trans (f47 71 (of_decide_eq_true rfl))) ((f164 72 (of_decide_eq_true rfl)).trans (f47 72 (of_decide_eq_true rfl))) hI106
         have I216 : jI109 σ162 := jI109_fr ((f165 50 (of_decide_eq_true rfl)).trans (congrFun (f47 55 (of_decide_eq_true rfl)) 50)) hI109
         have I217 : jI110 σ162 := jI110_fr ((f164 86 (of_decide_eq_true rfl)).trans (f47 86 (of_decide_eq_true rfl))) ((f164 87 (of_decide_eq_true rfl)).trans (f47 87 (of_decide_eq_true rfl))) hI110
         have I218 : jI111 σ162 := jI111_fr ((f164 79 (of_decide_eq_true rfl)).trans (f47 79 (of_decide_eq_true rfl))) hI111
         have I219 : jI119 σ162 := jI119_fr ((f164 68 (of_decide_eq_true rfl)).trans (f47 68 (of_decide_eq_true rfl))) hI119
         have p220 : jKept σ162 := jKept.fr ((f164 75 (of_decide_eq_true rfl)).trans (f47 75 (of_decide_eq_true rfl))) ((f164 76 (of_decide_eq_true rfl)).trans (f47 76 (of_decide_eq_true rfl))) ((f164 77 (of_decide_eq_true rfl)).trans (f47 77 (of_decide_eq_true rfl))) hs_jKept
         have z221 : (σ162 2 0).toInt = (σ 2 0).toInt := (congrArg Int32.toInt (show σ162 2 0 = (σ 2 0) from ((congrFun (f164 2 (of_decide_eq_true rfl)) 0).trans (congrFun (f47 2 (of_decide_eq_true rfl)) 0))))
         have z222 : (σ162 55 6).toInt = (σ 55 6).toInt := (congrArg Int32.toInt (show σ162 55 6 = (σ 55 6) from ((f165 6 (of_decide_eq_true rfl)).trans (congrFun (f47 55 (of_decide_eq_true rfl)) 6))))
         have z223 : (σ162 2 2).toInt = (σ 2 2).toInt := (congrArg Int32.toInt (show σ162 2 2 = (σ 2 2) from ((congrFun (f164 2 (of_decide_eq_true rfl)) 2).trans (congrFun (f47 2 (of_decide_eq_true rfl)) 2))))
         have z224 : (σ162 55 5).toInt = (σ 55 5).toInt := (congrArg Int32.toInt (show σ162 55 5 = (σ 55 5) from ((f165 5 (of_decide_eq_true rfl)).trans (congrFun (f47 55 (of_decide_eq_true rfl)) 5))))
         have z225 : (σ162 2 3).toInt = (σ 2 3).toInt := (congrArg Int32.toInt (show σ162 2 3 = (σ 2 3) from ((congrFun (f164 2 (of_decide_eq_true rfl)) 3).trans (congrFun (f47 2 (of_decide_eq_true rfl)) 3))))
         have z226 : (σ162 55 4).toInt = (σ 55 4).toInt := (congrArg Int32.toInt (show σ162 55 4 = (σ 55 4) from ((f165 4 (of_decide_eq_true rfl)).trans (congrFun (f47 55 (of_decide_eq_true rfl)) 4))))
         have z227 : (σ162 9 0).toInt = (σ45 9 0).toInt := (congrArg Int32.toInt (show σ162 9 0 = (σ45 9 0) from (congrFun (f164 9 (of_decide_eq_true rfl)) 0)))
         have z228 : (σ162 16 0).toInt = (σ45 16 0).toInt := (congrArg Int32.toInt (show σ162 16 0 = (σ45 16 0) from (congrFun (f164 16 (of_decide_eq_true rfl)) 0)))
         have z229 : (σ162 16 1).toInt = (σ45 16 1).toInt := (congrArg Int32.toInt (show σ162 16 1 = (σ45 16 1) from (congrFun (f164 16 (of_decide_eq_true rfl)) 1)))
         have z230 : (σ162 16 2).toInt = (σ45 16 2).toInt := (congrArg Int32.toInt (show σ162 16 2 = (σ45 16 2) from (congrFun (f164 16 (of_decide_eq_true rfl)) 2)))
         have z231 : (σ162 38 0).toInt = (σ 38 0).toInt := (congrArg Int32.toInt (show σ162 38 0 = (σ 38 0) from ((congrFun (f164 38 (of_decide_eq_true rfl)) 0).trans (congrFun (f47 38 (of_decide_eq_true rfl)) 0))))
         have z232 : (σ162 55 32).toInt = (σ 55 32).toInt := (congrArg Int32.toInt (show σ162 55 32 = (σ 55 32) from ((f165 32 (of_decide_eq_true rfl)).trans (congrFun (f47 55 (of_decide_eq_true rfl)) 32))))
         have z233 : (σ162 38 1).toInt = (σ 38 1).toInt := (congrArg Int32.toInt (show σ162 38 1 = (σ 38 1) from ((congrFun (f164 38 (of_decide_eq_true rfl)) 1).trans (congrFun (f47 38 (of_decide_eq_true rfl)) 1))))
         have z234 : (σ162 55 55).toInt = (σ 55 55).toInt := (congrArg Int32.toInt (show σ162 55 55 = (σ 55 55) from ((f165 55 (of_decide_eq_true rfl)).trans (congrFun (f47 55 (of_decide_eq_true rfl)) 55))))
         have z235 : (σ162 47 0).toInt = (σ45 47 0).toInt := (congrArg Int32.toInt (show σ162 47 0 = (σ45 47 0) from (congrFun (f164 47 (of_decide_eq_true rfl)) 0)))
         have z236 : (σ162 55 30).toInt = (σ 55 30).toInt := (congrArg Int32.toInt (show σ162 55 30 = (σ 55 30) from ((f165 30 (of_decide_eq_true rfl)).trans (congrFun (f47 55 (of_decide_eq_true rfl)) 30))))
         have z237 : (σ162 55 31).toInt = (σ 55 31).toInt := (congrArg Int32.toInt (show σ162 55 31 = (σ 55 31) from ((f165 31 (of_decide_eq_true rfl)).trans (congrFun (f47 55 (of_decide_eq_true rfl)) 31))))
         exact by exact ih x200 σ162 τ _ _ ls (by have h9 := tx200; omega) ⟨I201, I202, I203, I204, I205, I206, I207, I208, I209, I210, I211, I212, I213, I214, I166, I167, I215, I168, I216, I217, I218, I219, p220, p169, (by omega), (by omega), (by omega), (by omega), (by omega), (by omega), (by omega), (by omega), (by omega), (by omega), (by omega), (by omega), (show jNumP (σ162 3) (σ162 56) (σ162 6) (σ162 57) (σ162 7) (σ162 58) (σ162 8) (σ162 59) (σ162 55 6).toInt (σ162 55 4).toInt by rw [show σ162 3 = σ 3 from ((f164 3 (of_decide_eq_true rfl)).trans (f47 3 (of_decide_eq_true rfl))), show σ162 56 = σ 56 from ((f164 56 (of_decide_eq_true rfl)).trans (f47 56 (of_decide_eq_true rfl))), show σ162 6 = σ 6 from ((f164 6 (of_decide_eq_true rfl)).trans (f47 6 (of_decide_eq_true rfl))), show σ162 57 = σ 57 from ((f164 57 (of_decide_eq_true rfl)).trans (f47 57 (of_decide_eq_true rfl))), show σ162 7 = σ 7 from ((f164 7 (of_decide_eq_true rfl)).trans (f47 7 (of_decide_eq_true rfl))), show σ162 58 = σ 58 from ((f164 58 (of_decide_eq_true rfl)).trans (f47 58 (of_decide_eq_true rfl))), show σ162 8 = σ 8 from ((f164 8 (of_decide_eq_true rfl)).trans (f47 8 (of_decide_eq_true rfl))), show σ162 59 = σ 59 from ((f164 59 (of_decide_eq_true rfl)).trans (f47 59 (of_decide_eq_true rfl))), show (σ162 55 6).toInt = (σ 55 6).toInt from by omega, show (σ162 55 4).toInt = (σ 55 4).toInt from by omega]; exact hr0), (show jOvP (σ162 56) (σ162 57) (σ162 58) (σ162 59) (σ162 55 4).toInt by rw [show σ162 56 = σ 56 from ((f164 56 (of_decide_eq_true rfl)).trans (f47 56 (of_decide_eq_true rfl))), show σ162 57 = σ 57 from ((f164 57 (of_decide_eq_true rfl)).trans (f47 57 (of_decide_eq_true rfl))), show σ162 58 = σ 58 from ((f164 58 (of_decide_eq_true rfl)).trans (f47 58 (of_decide_eq_true rfl))), show σ162 59 = σ 59 from ((f164 59 (of_decide_eq_true rfl)).trans (f47 59 (of_decide_eq_true rfl))), show (σ162 55 4).toInt = (σ 55 4).toInt from by omega]; exact hr1), (show jTp (σ162 10) (σ162 63) (σ162 55 15).toInt by rw [show σ162 10 = σ 10 from ((f164 10 (of_decide_eq_true rfl)).trans (f47 10 (of_decide_eq_true rfl))), show σ162 63 = σ 63 from ((f164 63 (of_decide_eq_true rfl)).trans (f47 63 (of_decide_eq_true rfl)))]; exact hr2.le (by omega)), (show jSo (σ162 17) (σ162 62) (σ162 16 0).toInt by rw [show σ162 17 = σ45 17 from (f164 17 (of_decide_eq_true rfl)), show (σ162 16 0).toInt = (σ45 16 0).toInt from by omega]; exact p186), (show jShP (σ162 51) (σ162 52) (σ162 53) (σ162 86) (σ162 87) (σ162 55 32).toInt by rw [show σ162 51 = σ 51 from ((f164 51 (of_decide_eq_true rfl)).trans (f47 51 (of_decide_eq_true rfl))), show σ162 52 = σ 52 from ((f164 52 (of_decide_eq_true rfl)).trans (f47 52 (of_decide_eq_true rfl))), show σ162 53 = σ 53 from ((f164 53 (of_decide_eq_true rfl)).trans (f47 53 (of_decide_eq_true rfl))), show σ162 86 = σ 86 from ((f164 86 (of_decide_eq_true rfl)).trans (f47 86 (of_decide_eq_true rfl))), show σ162 87 = σ 87 from ((f164 87 (of_decide_eq_true rfl)).trans (f47 87 (of_decide_eq_true rfl)))]; exact (hr4.up (by omega) (by omega))), (show jEl (σ162 51) (σ162 52) (τ 54) (τ 88) by rw [show σ162 51 = σ 51 from ((f164 51 (of_decide_eq_true rfl)).trans (f47 51 (of_decide_eq_true rfl))), show σ162 52 = σ 52 from ((f164 52 (of_decide_eq_true rfl)).trans (f47 52 (of_decide_eq_true rfl)))]; exact hr5), (show jByP (σ162 51) (σ162 52) (τ 54) by rw [show σ162 51 = σ 51 from ((f164 51 (of_decide_eq_true rfl)).trans (f47 51 (of_decide_eq_true rfl))), show σ162 52 = σ 52 from ((f164 52 (of_decide_eq_true rfl)).trans (f47 52 (of_decide_eq_true rfl)))]; exact hr6), (jBk.nil (by omega)), (show jKd (σ162 39) (σ162 70) (σ162 55 32).toInt by rw [show σ162 39 = σ 39 from ((f164 39 (of_decide_eq_true rfl)).trans (f47 39 (of_decide_eq_true rfl))), show σ162 70 = σ 70 from ((f164 70 (of_decide_eq_true rfl)).trans (f47 70 (of_decide_eq_true rfl))), show (σ162 55 32).toInt = (σ 55 32).toInt from by omega]; exact hr8), (show jTt (σ162 42) (σ162 85) (σ162 55 55).toInt by rw [show σ162 42 = σ 42 from ((f164 42 (of_decide_eq_true rfl)).trans (f47 42 (of_decide_eq_true rfl))), show σ162 85 = σ 85 from ((f164 85 (of_decide_eq_true rfl)).trans (f47 85 (of_decide_eq_true rfl))), show (σ162 55 55).toInt = (σ 55 55).toInt from by omega]; exact hr9)⟩ hP hS (lv_sub hl [0, 1, 2, 3] rfl)
set_option maxHeartbeats 4000000 in
set_option maxRecDepth 100000 in
theorem law_case_6 {p : Program} {e : Env} {s : State} {m : MethodId} {below : List Frame} {meth : Method} {c : Code} (l : Launch) {b L : Nat} {xs : Nat → Int32} {D : va_G} {cI cL : ClassId} {ad zz : Nat → Nat} (C0 : lw_At p s m meth c b L xs) (hJ : jD ad) (hA : ∀ q, jA ad q → s.heap.size ≤ q) (hK : jK D cI cL s) (hZ : jZ zz (fun q : Nat => s.heap.size ≤ q) s s.heap) {x0 : Int32} (hx0 : 0 ≤ x0.toInt) (hxL : x0.toInt + 6 ≤ (L : Int)) (hL : L ≤ 384) {σ : Nat → Nat → Int32} {τ : Nat → Nat → Int64} {H : Heap} {locs : List Loc} (hS : va_S (fun q : Nat => s.heap.size ≤ q) s.heap H locs) {ls : Array Slot} (hAll : jAll σ τ) (hP : jH D cI cL ad σ τ H) (hl : lv_has ls 4 [(3, .int x0), (2, .ref (ad 55)), (1, .ref (ad 0)), (0, .ref b)]) (ih : ∀ (x1 : Int32) (σ : Nat → Nat → Int32) (τ : Nat → Nat → Int64) (H : Heap) (locs : List Loc) (ls : Array Slot), x1.toInt = x0.toInt + 6 → jAll σ τ → jH D cI cL ad σ τ H → va_S (fun q : Nat => s.heap.size ≤ q) s.heap H locs → lv_has ls 4 [(3, .int x1), (2, .ref (ad 55)), (1, .ref (ad 0)), (0, .ref b)] → W p l e room_1 s m #[Value.ref b] below meth c H locs 90 348600 (lw_Z below #[Value.ref b] s) (F0 m 18 ls [])) : W p l e room_1 s m #[Value.ref b] below meth c H locs 90 348600 (lw_Z below #[Value.ref b] s) (F0 m 394 ls []) := by
  obtain ⟨hx, hb, hr, hml, hown, hts0, hX, hbl, hlocks, hgv⟩ := C0
  have hts : ∀ w ∈ wsL_law, w.before #[Value.ref b] s = true := fun w h => hts0 w (wsL_law_in w h)
  have hbA : ¬ (fun q : Nat => s.heap.size ≤ q) b := Nat.not_le.mpr hbl
  have hown : s.vm.findClass RL = some m.cls := hown
  obtain ⟨hI2, hI9, hI12, hI16, hI18, hI22, hI31, hI38, hI43, hI47, hI50, hI101, hI102, hI103, hI104, hI105, hI106, hI107, hI109, hI110, hI111, hI119, hs_jKept, hs_jBook, ht0, ht1, ht2, ht3, ht4, ht5, ht6, ht7, ht8, ht9, ht10, ht11, hr0, hr1, hr2, hr3, hr4, hr5, hr6, hr7, hr8, hr9⟩ := hAll
  have hL9 : (L : Int) ≤ 384 := by omega
  obtain ⟨i1, i2, i3, i4, i5, w6⟩ : (0 ≤ (σ 2 0).toInt ∧ (σ 2 0).toInt ≤ 4) ∧ (0 ≤ (σ 2 1).toInt ∧ (σ 2 1).toInt ≤ 3) ∧ (0 ≤ (σ 2 2).toInt) ∧ (0 ≤ (σ 2 3).toInt) ∧ ((σ 2 2).toInt + (σ 2 3).toInt ≤ 40) ∧ (∀ k : Nat, k < 40 → 0 ≤ (σ 6 k).toInt ∧ (σ 6 k).toInt ≤ 67) := id hI2
  obtain ⟨i7, w8, w9⟩ : (0 ≤ (σ 9 0).toInt ∧ (σ 9 0).toInt ≤ 80) ∧ (∀ k : Nat, k < 80 → 0 ≤ (σ 10 k).toInt ∧ (σ 10 k).toInt ≤ 255) ∧ (∀ k : Nat, k < 8 → 0 ≤ (σ 11 k).toInt ∧ (σ 11 k).toInt ≤ 3) := id hI9
  obtain ⟨i10, i11, i12, w13⟩ : (1 ≤ (σ 16 0).toInt ∧ (σ 16 0).toInt ≤ 8) ∧ (1 ≤ (σ 16 1).toInt ∧ (σ 16 1).toInt ≤ 12) ∧ (0 ≤ (σ 16 2).toInt ∧ (σ 16 2).toInt ≤ 999) ∧ (∀ k : Nat, k < 8 → 0 ≤ (σ 17 k).toInt ∧ (σ 17 k).toInt ≤ 3) := id hI16
  obtain ⟨i14, i15, w16⟩ : (0 ≤ (σ 38 0).toInt ∧ (σ 38 0).toInt ≤ 20) ∧ (0 ≤ (σ 38 1).toInt ∧ (σ 38 1).toInt ≤ 1000) ∧ (∀ k : Nat, k < 20 → 0 ≤ (σ 39 k).toInt ∧ (σ 39 k).toInt ≤ 6) := id hI38
  obtain ⟨i17, w18, w19⟩ : (0 ≤ (σ 47 0).toInt ∧ (σ 47 0).toInt ≤ 12) ∧ (∀ k : Nat, k < 12 → 0 ≤ (σ 48 k).toInt ∧ (σ 48 k).toInt ≤ 3) ∧ (∀ k : Nat, k < 12 → 0 ≤ (σ 49 k).toInt ∧ (σ 49 k).toInt ≤ 1) := id hI47
  have w20 : ∀ k : Nat, k < 6 → 0 ≤ (σ 52 k).toInt ∧ (σ 52 k).toInt ≤ 60 := hI50
  obtain ⟨i21, i22, i23, w24, w25, w26, w27⟩ : (0 ≤ (σ 55 5).toInt) ∧ ((σ 55 5).toInt ≤ (σ 55 4).toInt) ∧ ((σ 55 4).toInt ≤ 40) ∧ (∀ k : Nat, k < 68 → (-200) ≤ (σ 56 k).toInt ∧ (σ 56 k).toInt ≤ 500) ∧ (∀ k : Nat, k < 40 → 0 ≤ (σ 57 k).toInt ∧ (σ 57 k).toInt ≤ 67) ∧ (∀ k : Nat, k < 40 → (-200) ≤ (σ 58 k).toInt ∧ (σ 58 k).toInt ≤ 500) ∧ (∀ k : Nat, k < 40 → (-200) ≤ (σ 59 k).toInt ∧ (σ 59 k).toInt ≤ 500) := id hI101
  obtain ⟨i28, w29, w30⟩ : (0 ≤ (σ 55 6).toInt ∧ (σ 55 6).toInt ≤ 4) ∧ (∀ k : Nat, k < 4 → 0 ≤ (σ 60 k).toInt ∧ (σ 60 k).toInt ≤ 50) ∧ (∀ k : Nat, k < 4 → 0 ≤ (σ 61 k).toInt ∧ (σ 61 k).toInt ≤ 20) := id hI102
  obtain ⟨i31, i32, i33, w34, w35⟩ : (1 ≤ (σ 55 10).toInt ∧ (σ 55 10).toInt ≤ 8) ∧ (1 ≤ (σ 55 12).toInt ∧ (σ 55 12).toInt ≤ 12) ∧ (0 ≤ (σ 55 13).toInt ∧ (σ 55 13).toInt ≤ 999) ∧ (∀ k : Nat, k < 8 → 0 ≤ (σ 62 k).toInt ∧ (σ 62 k).toInt ≤ 3) ∧ (∀ k : Nat, k < 8 → 0 ≤ (σ 67 k).toInt ∧ (σ 67 k).toInt ≤ 3) := id hI104
  obtain ⟨i36, w37⟩ : (0 ≤ (σ 55 15).toInt ∧ (σ 55 15).toInt ≤ 80) ∧ (∀ k : Nat, k < 2 → (-1) ≤ (σ 65 k).toInt ∧ (σ 65 k).toInt ≤ 80) := id hI105
  obtain ⟨i38, w39, w40, w41⟩ : (0 ≤ (σ 55 32).toInt ∧ (σ 55 32).toInt ≤ 20) ∧ (∀ k : Nat, k < 20 → 0 ≤ (σ 70 k).toInt ∧ (σ 70 k).toInt ≤ 6) ∧ (∀ k : Nat, k < 20 → 0 ≤ (σ 71 k).toInt ∧ (σ 71 k).toInt ≤ 8) ∧ (∀ k : Nat, k < 160 → 0 ≤ (σ 72 k).toInt ∧ (σ 72 k).toInt ≤ 3) := id hI106
  obtain ⟨i42, i43, w44⟩ : (0 ≤ (σ 55 47).toInt ∧ (σ 55 47).toInt ≤ 12) ∧ ((σ 55 47).toInt ≤ (σ 55 12).toInt) ∧ (∀ k : Nat, k < 12 → 0 ≤ (σ 80 k).toInt ∧ (σ 80 k).toInt ≤ 3) := id hI107
  refine lv_aload_n hx hb dL_law_394 rfl (lv_at hl 2 rfl) ?_
  refine lv_aload_n hx hb dL_law_395 rfl (lv_at hl 3 rfl) ?_
  refine lv_iload_n hx hb dL_law_396 rfl (lv_at hl 0 rfl) ?_
  refine lv_iconst (v := 1) hx hb dL_law_397 (of_decide_eq_true rfl) ?_
  have g45 := jrg (rfl : x0.toInt = x0.toInt)
  refine lv_iadd hx hb dL_law_398 ?_
  refine lv_topi (fun x46 ex46 => ?_)
  exact by
   have tx46 : x46.toInt = x0.toInt + 1 := (jadd ex46 rfl jz_1 (by omega) (by omega)).trans (by omega)
   refine va_sld hx hb hX hbl hbA hS (jin tx46 (by omega) (by omega)) dL_law_399 ?_
   have g47 := jrg (rfl : (xs x46.toNatClampNeg).toInt = (xs x46.toNatClampNeg).toInt)
   refine jcallV (As := [.int (xs x46.toNatClampNeg)]) (rest := []) ⟨hx, hb, hml, hown, hts⟩ hK hP hA hS hZ (c_X11_text l D cI cL ad zz hJ σ τ (xs x46.toNatClampNeg) ((xs x46.toNatClampNeg).toInt) rfl hI9 hI12 hI18 hI22) cw_RL_41 (jc_0 cI cL ad σ τ) rfl ⟨Nat.le_of_ble_eq_true rfl, Nat.le_of_ble_eq_true rfl⟩ rfl rfl rfl hl.1 rfl (Nat.le_of_ble_eq_true rfl) dL_law_400 ⟨Nat.le_of_ble_eq_true rfl, Nat.le_of_ble_eq_true rfl⟩ (fun r49 σ48 τ48 H locs h48 hP hS => ?_)
   obtain ⟨rfl, f50, f51, f52, f53, f54, f55, I56, I57, I58, I59, h48⟩ := h48
   obtain ⟨i61, w62, w63⟩ : (0 ≤ (σ48 9 0).toInt ∧ (σ48 9 0).toInt ≤ 80) ∧ (∀ k : Nat, k < 80 → 0 ≤ (σ48 10 k).toInt ∧ (σ48 10 k).toInt ≤ 255) ∧ (∀ k : Nat, k < 8 → 0 ≤ (σ48 11 k).toInt ∧ (σ48 11 k).toInt ≤ 3) := id I56
   obtain ⟨k64, h48⟩ := h48
   refine lv_pop hx hb dL_law_403 rfl ?_
   refine lv_aload_n hx hb dL_law_404 rfl (lv_at hl 1 rfl) ?_
   exact by
    refine lv_aload_n hx hb dL_law_405 rfl (lv_at hl 3 rfl) ?_
    refine lv_iload_n hx hb dL_law_406 rfl (lv_at hl 0 rfl) ?_
    refine lv_iconst (v := 1) hx hb dL_law_407 (of_decide_eq_true rfl) ?_
    refine lv_iadd hx hb dL_law_408 ?_
    refine jtopr ex46.symm ?_
    refine va_sld hx hb hX hbl hbA hS (jin tx46 (by omega) (by omega)) dL_law_409 ?_
    have I65 : jI105 σ48 := jI105_fr (congrFun (f50 55 (of_decide_eq_true rfl)) 15) (f50 65 (of_decide_eq_true rfl)) hI105
    have z66 : (σ48 55 15).toInt = (σ 55 15).toInt := (congrArg Int32.toInt (show σ48 55 15 = (σ 55 15) from (congrFun (f50 55 (of_decide_eq_true rfl)) 15)))
    refine jcallV (As := [.int (xs x46.toNatClampNeg)]) (rest := []) ⟨hx, hb, hml, hown, hts⟩ hK hP hA hS hZ (c_X12_text l D cI cL ad zz hJ σ48 τ (xs x46.toNatClampNeg) ((xs x46.toNatClampNeg).toInt) rfl I65) cw_RL_44 (jc_55 cI cL ad σ48 τ) rfl ⟨Nat.le_of_ble_eq_true rfl, Nat.le_of_ble_eq_true rfl⟩ rfl rfl rfl hl.1 rfl (Nat.le_of_ble_eq_true rfl) dL_law_410 ⟨Nat.le_of_ble_eq_true rfl, Nat.le_of_ble_eq_true rfl⟩ (fun r68 σ67 τ67 H locs h67 hP hS => ?_)
    exact by
     obtain ⟨rfl, f69, f70, I71, h67⟩ := h67
     obtain ⟨i73, w74⟩ : (0 ≤ (σ67 55 15).toInt ∧ (σ67 55 15).toInt ≤ 80) ∧ (∀ k : Nat, k < 2 → (-1) ≤ (σ67 65 k).toInt ∧ (σ67 65 k).toInt ≤ 80) := id I71
     obtain ⟨k75, h67⟩ := h67
     refine lv_pop hx hb dL_law_413 rfl ?_
     refine lv_goto (tgt := 1357) hx hb dL_law_414 (of_decide_eq_true rfl) ?_
     obtain ⟨x76, ex76⟩ : ∃ y : Int32, y = x0 + 6 := ⟨_, rfl⟩
     have tx76 : x76.toInt = x0.toInt + 6 := (jadd ex76 rfl jz_6 (by omega) (by omega)).trans (by omega)
     refine lv_iinc (v := x76) (lv' := [(3, .int x76), (2, .ref (ad 55)), (1, .ref (ad 0)), (0, .ref b)]) hx hb dL_law_1357 hl (k := 0) rfl (by rw [ex76]; rfl) (of_decide_eq_true rfl) rfl (fun ls hl => ?_)
     refine lv_goto (tgt := 18) hx hb dL_law_1360 (of_decide_eq_true rfl) ?_
     exact by
      have I77 : jI2 σ67 := jI2_fr ((congrFun (f69 2 (of_decide_eq_true rfl)) 0).trans (congrFun (f50 2 (of_decide_eq_true rfl)) 0)) ((congrFun (f69 2 (of_decide_eq_true rfl)) 1).trans (congrFun (f50 2 (of_decide_eq_true rfl)) 1)) ((congrFun (f69 2 (of_decide_eq_true rfl)) 2).trans (congrFun (f50 2 (of_decide_eq_true rfl)) 2)) ((congrFun (f69 2 (of_decide_eq_true rfl)) 3).trans (congrFun (f50 2 (of_decide_eq_true rfl)) 3)) ((f69 6 (of_decide_eq_true rfl)).trans (f50 6 (of_decide_eq_true rfl))) hI2
      have I78 : jI9 σ67 := jI9_fr (congrFun (f69 9 (of_decide_eq_true rfl)) 0) (f69 10 (of_decide_eq_true rfl)) (f69 11 (of_decide_eq_true rfl)) I56
      have I79 : jI12 σ67 := jI12_fr (congrFun (f69 12 (of_decide_eq_true rfl)) 0) (f69 13 (of_decide_eq_true rfl)) I57
      have I80 : jI16 σ67 := jI16_fr ((congrFun (f69 16 (of_decide_eq_true rfl)) 0).trans (congrFun (f50 16 (of_decide_eq_true rfl)) 0)) ((congrFun (f69 16 (of_decide_eq_true rfl)) 1).trans (congrFun (f50 16 (of_decide_eq_true rfl)) 1)) ((congrFun (f69 16 (of_decide_eq_true rfl)) 2).trans (congrFun (f50 16 (of_decide_eq_true rfl)) 2)) ((f69 17 (of_decide_eq_true rfl)).trans (f50 17 (of_decide_eq_true rfl))) hI16
      have I81 : jI18 σ67 := jI18_fr (congrFun (f69 18 (of_decide_eq_true rfl)) 0) (f69 19 (of_decide_eq_true rfl)) I58
      have I82 : jI22 σ67 := jI22_fr (congrFun (f69 22 (of_decide_eq_true rfl)) 0) (f69 23 (of_decide_eq_true rfl)) I59
      have I83 : jI31 σ67 := jI31_fr ((congrFun (f69 31 (of_decide_eq_true rfl)) 8).trans (congrFun (f50 31 (of_decide_eq_true rfl)) 8)) ((f69 33 (of_decide_eq_true rfl)).trans (f50 33 (of_decide_eq_true rfl))) ((f69 36 (of_decide_eq_true rfl)).trans (f50 36 (of_decide_eq_true rfl))) hI31
      have I84 : jI38 σ67 := jI38_fr ((congrFun (f69 38 (of_decide_eq_true rfl)) 0).trans (congrFun (f50 38 (of_decide_eq_true rfl)) 0)) ((congrFun (f69 38 (of_decide_eq_true rfl)) 1).trans (congrFun (f50 38 (of_decide_eq_true rfl)) 1)) ((f69 39 (of_decide_eq_true rfl)).trans (f50 39 (of_decide_eq_true rfl))) hI38
      have I85 : jI43 σ67 := jI43_fr ((congrFun (f69 43 (of_decide_eq_true rfl)) 8).trans (congrFun (f50 43 (of_decide_eq_true rfl)) 8)) hI43
      have I86 : jI47 σ67 := jI47_fr ((congrFun (f69 47 (of_decide_eq_true rfl)) 0).trans (congrFun (f50 47 (of_decide_eq_true rfl)) 0)) ((f69 48 (of_decide_eq_true rfl)).trans (f50 48 (of_decide_eq_true rfl))) ((f69 49 (of_decide_eq_true rfl)).trans (f50 49 (of_decide_eq_true rfl))) hI47
      have I87 : jI50 σ67 := jI50_fr ((f69 52 (of_decide_eq_true rfl)).trans (f50 52 (of_decide_eq_true rfl))) hI50
      have I88 : jI101 σ67 := jI101_fr ((f70 4 (of_decide_eq_true rfl)).trans (congrFun (f50 55 (of_decide_eq_true rfl)) 4)) ((f70 5 (of_decide_eq_true rfl)).trans (congrFun (f50 55 (of_decide_eq_true rfl)) 5)) ((f69 56 (of_decide_eq_true rfl)).trans (f50 56 (of_decide_eq_true rfl))) ((f69 57 (of_decide_eq_true rfl)).trans (f50 57 (of_decide_eq_true rfl))) ((f69 58 (of_decide_eq_true rfl)).trans (f50 58 (of_decide_eq_true rfl))) ((f69 59 (of_decide_eq_true rfl)).trans (f50 59 (of_decide_eq_true rfl))) hI101
      have I89 : jI102 σ67 := jI102_fr ((f70 6 (of_decide_eq_true rfl)).trans (congrFun (f50 55 (of_decide_eq_true rfl)) 6)) ((f69 60 (of_decide_eq_true rfl)).trans (f50 60 (of_decide_eq_true rfl))) ((f69 61 (of_decide_eq_true rfl)).trans (f50 61 (of_decide_eq_true rfl))) hI102
      have I90 : jI103 σ67 := jI103_fr ((f70 9 (of_decide_eq_true rfl)).trans (congrFun (f50 55 (of_decide_eq_true rfl)) 9)) hI103
      have I91 : jI104 σ67 := jI104_fr ((f70 10 (of_decide_eq_true rfl)).trans (congrFun (f50 55 (of_decide_eq_true rfl)) 10)) ((f70 12 (of_decide_eq_true rfl)).trans (congrFun (f50 55 (of_decide_eq_true rfl)) 12)) ((f70 13 (of_decide_eq_true rfl)).trans (congrFun (f50 55 (of_decide_eq_true rfl)) 13)) ((f69 62 (of_decide_eq_true rfl)).trans (f50 62 (of_decide_eq_true rfl))) ((f69 67 (of_decide_eq_true rfl)).trans (f50 67 (of_decide_eq_true rfl))) hI104
      have I92 : jI106 σ67 := jI106_fr ((f70 32 (of_decide_eq_true rfl)).trans (congrFun (f50 55 (of_decide_eq_true rfl)) 32)) ((f69 70 (of_decide_eq_true rfl)).trans (f50 70 (of_decide_eq_true rfl))) ((f69 71 (of_decide_eq_true rfl)).trans (f50 71 (of_decide_eq_true rfl))) ((f69 72 (of_decide_eq_true rfl)).trans (f50 72 (of_decide_eq_true rfl))) hI106
      have I93 : jI107 σ67 := jI107_fr ((f70 12 (of_decide_eq_true rfl)).trans (congrFun (f50 55 (of_decide_eq_true rfl)) 12)) ((f70 47 (of_decide_eq_true rfl)).trans (congrFun (f50 55 (of_decide_eq_true rfl)) 47)) ((f69 80 (of_decide_eq_true rfl)).trans (f50 80 (of_decide_eq_true rfl))) hI107
      have I94 : jI109 σ67 := jI109_fr ((f70 50 (of_decide_eq_true rfl)).trans (congrFun (f50 55 (of_decide_eq_true rfl)) 50)) hI109
      have I95 : jI110 σ67 := jI110_fr ((f69 86 (of_decide_eq_true rfl)).trans (f50 86 (of_decide_eq_true rfl))) ((f69 87 (of_decide_eq_true rfl)).trans (f50 87 (of_decide_eq_true rfl))) hI110
      have I96 : jI111 σ67 := jI111_fr ((f69 79 (of_decide_eq_true rfl)).trans (f50 79 (of_decide_eq_true rfl))) hI111
      have I97 : jI119 σ67 := jI119_fr ((f69 68 (of_decide_eq_true rfl)).trans (f50 68 (of_decide_eq_true rfl))) hI119
      have p98 : jKept σ67 := jKept.fr ((f69 75 (of_decide_eq_true rfl)).trans (f50 75 (of_decide_eq_true rfl))) ((f69 76 (of_decide_eq_true rfl)).trans (f50 76 (of_decide_eq_true rfl))) ((f69 77 (of_decide_eq_true rfl)).trans (f50 77 (of_decide_eq_true rfl))) hs_jKept
      have p99 : jBook σ67 := jBook.fr ((f70 47 (of_decide_eq_true rfl)).trans (congrFun (f50 55 (of_decide_eq_true rfl)) 47)) ((f70 10 (of_decide_eq_true rfl)).trans (congrFun (f50 55 (of_decide_eq_true rfl)) 10)) ((f69 81 (of_decide_eq_true rfl)).trans (f50 81 (of_decide_eq_true rfl))) hs_jBook
      have z100 : (σ67 2 0).toInt = (σ 2 0).toInt := (congrArg Int32.toInt (show σ67 2 0 = (σ 2 0) from ((congrFun (f69 2 (of_decide_eq_true rfl)) 0).trans (congrFun (f50 2 (of_decide_eq_true rfl)) 0))))
      have z101 : (σ67 55 6).toInt = (σ 55 6).toInt := (congrArg Int32.toInt (show σ67 55 6 = (σ 55 6) from ((f70 6 (of_decide_eq_true rfl)).trans (congrFun (f50 55 (of_decide_eq_true rfl)) 6))))
      have z102 : (σ67 2 2).toInt = (σ 2 2).toInt := (congrArg Int32.toInt (show σ67 2 2 = (σ 2 2) from ((congrFun (f69 2 (of_decide_eq_true rfl)) 2).trans (congrFun (f50 2 (of_decide_eq_true rfl)) 2))))
      have z103 : (σ67 55 5).toInt = (σ 55 5).toInt := (congrArg Int32.toInt (show σ67 55 5 = (σ 55 5) from ((f70 5 (of_decide_eq_true rfl)).trans (congrFun (f50 55 (of_decide_eq_true rfl)) 5))))
      have z104 : (σ67 2 3).toInt = (σ 2 3).toInt := (congrArg Int32.toInt (show σ67 2 3 = (σ 2 3) from ((congrFun (f69 2 (of_decide_eq_true rfl)) 3).trans (congrFun (f50 2 (of_decide_eq_true rfl)) 3))))
      have z105 : (σ67 55 4).toInt = (σ 55 4).toInt := (congrArg Int32.toInt (show σ67 55 4 = (σ 55 4) from ((f70 4 (of_decide_eq_true rfl)).trans (congrFun (f50 55 (of_decide_eq_true rfl)) 4))))
      have z106 : (σ67 9 0).toInt = (σ48 9 0).toInt := (congrArg Int32.toInt (show σ67 9 0 = (σ48 9 0) from (congrFun (f69 9 (of_decide_eq_true rfl)) 0)))
      have z107 : (σ67 16 0).toInt = (σ 16 0).toInt := (congrArg Int32.toInt (show σ67 16 0 = (σ 16 0) from ((congrFun (f69 16 (of_decide_eq_true rfl)) 0).trans (congrFun (f50 16 (of_decide_eq_true rfl)) 0))))
      have z108 : (σ67 55 10).toInt = (σ 55 10).toInt := (congrArg Int32.toInt (show σ67 55 10 = (σ 55 10) from ((f70 10 (of_decide_eq_true rfl)).trans (congrFun (f50 55 (of_decide_eq_true rfl)) 10))))
      have z109 : (σ67 16 1).toInt = (σ 16 1).toInt := (congrArg Int32.toInt (show σ67 16 1 = (σ 16 1) from ((congrFun (f69 16 (of_decide_eq_true rfl)) 1).trans (congrFun (f50 16 (of_decide_eq_true rfl)) 1))))
      have z110 : (σ67 55 12).toInt = (σ 55 12).toInt := (congrArg Int32.toInt (show σ67 55 12 = (σ 55 12) from ((f70 12 (of_decide_eq_true rfl)).trans (congrFun (f50 55 (of_decide_eq_true rfl)) 12))))
      have z111 : (σ67 16 2).toInt = (σ 16 2).toInt := (congrArg Int32.toInt (show σ67 16 2 = (σ 16 2) from ((congrFun (f69 16 (of_decide_eq_true rfl)) 2).trans (congrFun (f50 16 (of_decide_eq_true rfl)) 2))))
      have z112 : (σ67 55 13).toInt = (σ 55 13).toInt := (congrArg Int32.toInt (show σ67 55 13 = (σ 55 13) from ((f70 13 (of_decide_eq_true rfl)).trans (congrFun (f50 55 (of_decide_eq_true rfl)) 13))))
      have z113 : (σ67 38 0).toInt = (σ 38 0).toInt := (congrArg Int32.toInt (show σ67 38 0 = (σ 38 0) from ((congrFun (f69 38 (of_decide_eq_true rfl)) 0).trans (congrFun (f50 38 (of_decide_eq_true rfl)) 0))))
      have z114 : (σ67 55 32).toInt = (σ 55 32).toInt := (congrArg Int32.toInt (show σ67 55 32 = (σ 55 32) from ((f70 32 (of_decide_eq_true rfl)).trans (congrFun (f50 55 (of_decide_eq_true rfl)) 32))))
      have z115 : (σ67 38 1).toInt = (σ 38 1).toInt := (congrArg Int32.toInt (show σ67 38 1 = (σ 38 1) from ((congrFun (f69 38 (of_decide_eq_true rfl)) 1).trans (congrFun (f50 38 (of_decide_eq_true rfl)) 1))))
      have z116 : (σ67 55 55).toInt = (σ 55 55).toInt := (congrArg Int32.toInt (show σ67 55 55 = (σ 55 55) from ((f70 55 (of_decide_eq_true rfl)).trans (congrFun (f50 55 (of_decide_eq_true rfl)) 55))))
      have z117 : (σ67 47 0).toInt = (σ 47 0).toInt := (congrArg Int32.toInt (show σ67 47 0 = (σ 47 0) from ((congrFun (f69 47 (of_decide_eq_true rfl)) 0).trans (congrFun (f50 47 (of_decide_eq_true rfl)) 0))))
      have z118 : (σ67 55 47).toInt = (σ 55 47).toInt := (congrArg Int32.toInt (show σ67 55 47 = (σ 55 47) from ((f70 47 (of_decide_eq_true rfl)).trans (congrFun (f50 55 (of_decide_eq_true rfl)) 47))))
      have z119 : (σ67 55 30).toInt = (σ 55 30).toInt := (congrArg Int32.toInt (show σ67 55 30 = (σ 55 30) from ((f70 30 (of_decide_eq_true rfl)).trans (congrFun (f50 55 (of_decide_eq_true rfl)) 30))))
      have z120 : (σ67 55 31).toInt = (σ 55 31).toInt := (congrArg Int32.toInt (show σ67 55 31 = (σ 55 31) from ((f70 31 (of_decide_eq_true rfl)).trans (congrFun (f50 55 (of_decide_eq_true rfl)) 31))))
      exact by exact ih x76 σ67 τ _ _ ls (by have h9 := tx76; omega) ⟨I77, I78, I79, I80, I81, I82, I83, I84, I85, I86, I87, I88, I89, I90, I91, I71, I92, I93, I94, I95, I96, I97, p98, p99, (by omega), (by omega), (by omega), (by omega), (by omega), (by omega), (by omega), (by omega), (by omega), (by omega), (by omega), (by omega), (show jNumP (σ67 3) (σ67 56) (σ67 6) (σ67 57) (σ67 7) (σ67 58) (σ67 8) (σ67 59) (σ67 55 6).toInt (σ67 55 4).toInt by rw [show σ67 3 = σ 3 from ((f69 3 (of_decide_eq_true rfl)).trans (f50 3 (of_decide_eq_true rfl))), show σ67 56 = σ 56 from ((f69 56 (of_decide_eq_true rfl)).trans (f50 56 (of_decide_eq_true rfl))), show σ67 6 = σ 6 from ((f69 6 (of_decide_eq_true rfl)).trans (f50 6 (of_decide_eq_true rfl))), show σ67 57 = σ 57 from ((f69 57 (of_decide_eq_true rfl)).trans (f50 57 (of_decide_eq_true rfl))), show σ67 7 = σ 7 from ((f69 7 (of_decide_eq_true rfl)).trans (f50 7 (of_decide_eq_true rfl))), show σ67 58 = σ 58 from ((f69 58 (of_decide_eq_true rfl)).trans (f50 58 (of_decide_eq_true rfl))), show σ67 8 = σ 8 from ((f69 8 (of_decide_eq_true rfl)).trans (f50 8 (of_decide_eq_true rfl))), show σ67 59 = σ 59 from ((f69 59 (of_decide_eq_true rfl)).trans (f50 59 (of_decide_eq_true rfl))), show (σ67 55 6).toInt = (σ 55 6).toInt from by omega, show (σ67 55 4).toInt = (σ 55 4).toInt from by omega]; exact hr0), (show jOvP (σ67 56) (σ67 57) (σ67 58) (σ67 59) (σ67 55 4).toInt by rw [show σ67 56 = σ 56 from ((f69 56 (of_decide_eq_true rfl)).trans (f50 56 (of_decide_eq_true rfl))), show σ67 57 = σ 57 from ((f69 57 (of_decide_eq_true rfl)).trans (f50 57 (of_decide_eq_true rfl))), show σ67 58 = σ 58 from ((f69 58 (of_decide_eq_true rfl)).trans (f50 58 (of_decide_eq_true rfl))), show σ67 59 = σ 59 from ((f69 59 (of_decide_eq_true rfl)).trans (f50 59 (of_decide_eq_true rfl))), show (σ67 55 4).toInt = (σ 55 4).toInt from by omega]; exact hr1), (show jTp (σ67 10) (σ67 63) (σ67 55 15).toInt by rw [show σ67 10 = σ 10 from ((f69 10 (of_decide_eq_true rfl)).trans (f50 10 (of_decide_eq_true rfl))), show σ67 63 = σ 63 from ((f69 63 (of_decide_eq_true rfl)).trans (f50 63 (of_decide_eq_true rfl)))]; exact hr2.le (by omega)), (show jSo (σ67 17) (σ67 62) (σ67 16 0).toInt by rw [show σ67 17 = σ 17 from ((f69 17 (of_decide_eq_true rfl)).trans (f50 17 (of_decide_eq_true rfl))), show σ67 62 = σ 62 from ((f69 62 (of_decide_eq_true rfl)).trans (f50 62 (of_decide_eq_true rfl))), show (σ67 16 0).toInt = (σ 16 0).toInt from by omega]; exact hr3), (show jShP (σ67 51) (σ67 52) (σ67 53) (σ67 86) (σ67 87) (σ67 55 32).toInt by rw [show σ67 51 = σ 51 from ((f69 51 (of_decide_eq_true rfl)).trans (f50 51 (of_decide_eq_true rfl))), show σ67 52 = σ 52 from ((f69 52 (of_decide_eq_true rfl)).trans (f50 52 (of_decide_eq_true rfl))), show σ67 53 = σ 53 from ((f69 53 (of_decide_eq_true rfl)).trans (f50 53 (of_decide_eq_true rfl))), show σ67 86 = σ 86 from ((f69 86 (of_decide_eq_true rfl)).trans (f50 86 (of_decide_eq_true rfl))), show σ67 87 = σ 87 from ((f69 87 (of_decide_eq_true rfl)).trans (f50 87 (of_decide_eq_true rfl)))]; exact (hr4.up (by omega) (by omega))), (show jEl (σ67 51) (σ67 52) (τ 54) (τ 88) by rw [show σ67 51 = σ 51 from ((f69 51 (of_decide_eq_true rfl)).trans (f50 51 (of_decide_eq_true rfl))), show σ67 52 = σ 52 from ((f69 52 (of_decide_eq_true rfl)).trans (f50 52 (of_decide_eq_true rfl)))]; exact hr5), (show jByP (σ67 51) (σ67 52) (τ 54) by rw [show σ67 51 = σ 51 from ((f69 51 (of_decide_eq_true rfl)).trans (f50 51 (of_decide_eq_true rfl))), show σ67 52 = σ 52 from ((f69 52 (of_decide_eq_true rfl)).trans (f50 52 (of_decide_eq_true rfl)))]; exact hr6), (show jBk (σ67 48) (σ67 80) (σ67 49) (σ67 81) (σ67 55 47).toInt by rw [show σ67 48 = σ 48 from ((f69 48 (of_decide_eq_true rfl)).trans (f50 48 (of_decide_eq_true rfl))), show σ67 49 = σ 49 from ((f69 49 (of_decide_eq_true rfl)).trans (f50 49 (of_decide_eq_true rfl))), show σ67 80 = σ 80 from ((f69 80 (of_decide_eq_true rfl)).trans (f50 80 (of_decide_eq_true rfl))), show σ67 81 = σ 81 from ((f69 81 (of_decide_eq_true rfl)).trans (f50 81 (of_decide_eq_true rfl))), show (σ67 55 47).toInt = (σ 55 47).toInt from by omega]; exact hr7), (show jKd (σ67 39) (σ67 70) (σ67 55 32).toInt by rw [show σ67 39 = σ 39 from ((f69 39 (of_decide_eq_true rfl)).trans (f50 39 (of_decide_eq_true rfl))), show σ67 70 = σ 70 from ((f69 70 (of_decide_eq_true rfl)).trans (f50 70 (of_decide_eq_true rfl))), show (σ67 55 32).toInt = (σ 55 32).toInt from by omega]; exact hr8), (show jTt (σ67 42) (σ67 85) (σ67 55 55).toInt by rw [show σ67 42 = σ 42 from ((f69 42 (of_decide_eq_true rfl)).trans (f50 42 (of_decide_eq_true rfl))), show σ67 85 = σ 85 from ((f69 85 (of_decide_eq_true rfl)).trans (f50 85 (of_decide_eq_true rfl))), show (σ67 55 55).toInt = (σ 55 55).toInt from by omega]; exact hr9)⟩ hP hS (lv_sub hl [0, 1, 2, 3] rfl)
set_option maxHeartbeats 4000000 in
set_option maxRecDepth 100000 in
theorem law_case_7 {p : Program} {e : Env} {s : State} {m : MethodId} {below : List Frame} {meth : Method} {c : Code} (l : Launch) {b L : Nat} {xs : Nat → Int32} {D : va_G} {cI cL : ClassId} {ad zz : Nat → Nat} (C0 : lw_At p s m meth c b L xs) (hJ : jD ad) (hA : ∀ q, jA ad q → s.heap.size ≤ q) (hK : jK D cI cL s) (hZ : jZ zz (fun q : Nat => s.heap.size ≤ q) s s.heap) {x0 : Int32} (hx0 : 0 ≤ x0.toInt) (hxL : x0.toInt + 6 ≤ (L : Int)) (hL : L ≤ 384) {σ : Nat → Nat → Int32} {τ : Nat → Nat → Int64} {H : Heap} {locs : List Loc} (hS : va_S (fun q : Nat => s.heap.size ≤ q) s.heap H locs) {ls : Array Slot} (hAll : jAll σ τ) (hP : jH D cI cL ad σ τ H) (hl : lv_has ls 4 [(3, .int x0), (2, .ref (ad 55)), (1, .ref (ad 0)), (0, .ref b)]) (ih : ∀ (x1 : Int32) (σ : Nat → Nat → Int32) (τ : Nat → Nat → Int64) (H : Heap) (locs : List Loc) (ls : Array Slot), x1.toInt = x0.toInt + 6 → jAll σ τ → jH D cI cL ad σ τ H → va_S (fun q : Nat => s.heap.size ≤ q) s.heap H locs → lv_has ls 4 [(3, .int x1), (2, .ref (ad 55)), (1, .ref (ad 0)), (0, .ref b)] → W p l e room_1 s m #[Value.ref b] below meth c H locs 90 348600 (lw_Z below #[Value.ref b] s) (F0 m 18 ls [])) : W p l e room_1 s m #[Value.ref b] below meth c H locs 90 348600 (lw_Z below #[Value.ref b] s) (F0 m 417 ls []) := by
  obtain ⟨hx, hb, hr, hml, hown, hts0, hX, hbl, hlocks, hgv⟩ := C0
  have hts : ∀ w ∈ wsL_law, w.before #[Value.ref b] s = true := fun w h => hts0 w (wsL_law_in w h)
  have hbA : ¬ (fun q : Nat => s.heap.size ≤ q) b := Nat.not_le.mpr hbl
  have hown : s.vm.findClass RL = some m.cls := hown
  obtain ⟨hI2, hI9, hI12, hI16, hI18, hI22, hI31, hI38, hI43, hI47, hI50, hI101, hI102, hI103, hI104, hI105, hI106, hI107, hI109, hI110, hI111, hI119, hs_jKept, hs_jBook, ht0, ht1, ht2, ht3, ht4, ht5, ht6, ht7, ht8, ht9, ht10, ht11, hr0, hr1, hr2, hr3, hr4, hr5, hr6, hr7, hr8, hr9⟩ := hAll
  have hL9 : (L : Int) ≤ 384 := by omega
  obtain ⟨i1, i2, i3, i4, i5, w6⟩ : (0 ≤ (σ 2 0).toInt ∧ (σ 2 0).toInt ≤ 4) ∧ (0 ≤ (σ 2 1).toInt ∧ (σ 2 1).toInt ≤ 3) ∧ (0 ≤ (σ 2 2).toInt) ∧ (0 ≤ (σ 2 3).toInt) ∧ ((σ 2 2).toInt + (σ 2 3).toInt ≤ 40) ∧ (∀ k : Nat, k < 40 → 0 ≤ (σ 6 k).toInt ∧ (σ 6 k).toInt ≤ 67) := id hI2
  obtain ⟨i7, w8, w9⟩ : (0 ≤ (σ 9 0).toInt ∧ (σ 9 0).toInt ≤ 80) ∧ (∀ k : Nat, k < 80 → 0 ≤ (σ 10 k).toInt ∧ (σ 10 k).toInt ≤ 255) ∧ (∀ k : Nat, k < 8 → 0 ≤ (σ 11 k).toInt ∧ (σ 11 k).toInt ≤ 3) := id hI9
  obtain ⟨i10, i11, i12, w13⟩ : (1 ≤ (σ 16 0).toInt ∧ (σ 16 0).toInt ≤ 8) ∧ (1 ≤ (σ 16 1).toInt ∧ (σ 16 1).toInt ≤ 12) ∧ (0 ≤ (σ 16 2).toInt ∧ (σ 16 2).toInt ≤ 999) ∧ (∀ k : Nat, k < 8 → 0 ≤ (σ 17 k).toInt ∧ (σ 17 k).toInt ≤ 3) := id hI16
  obtain ⟨i14, i15, w16⟩ : (0 ≤ (σ 38 0).toInt ∧ (σ 38 0).toInt ≤ 20) ∧ (0 ≤ (σ 38 1).toInt ∧ (σ 38 1).toInt ≤ 1000) ∧ (∀ k : Nat, k < 20 → 0 ≤ (σ 39 k).toInt ∧ (σ 39 k).toInt ≤ 6) := id hI38
  obtain ⟨i17, w18, w19⟩ : (0 ≤ (σ 47 0).toInt ∧ (σ 47 0).toInt ≤ 12) ∧ (∀ k : Nat, k < 12 → 0 ≤ (σ 48 k).toInt ∧ (σ 48 k).toInt ≤ 3) ∧ (∀ k : Nat, k < 12 → 0 ≤ (σ 49 k).toInt ∧ (σ 49 k).toInt ≤ 1) := id hI47
  have w20 : ∀ k : Nat, k < 6 → 0 ≤ (σ 52 k).toInt ∧ (σ 52 k).toInt ≤ 60 := hI50
  obtain ⟨i21, i22, i23, w24, w25, w26, w27⟩ : (0 ≤ (σ 55 5).toInt) ∧ ((σ 55 5).toInt ≤ (σ 55 4).toInt) ∧ ((σ 55 4).toInt ≤ 40) ∧ (∀ k : Nat, k < 68 → (-200) ≤ (σ 56 k).toInt ∧ (σ 56 k).toInt ≤ 500) ∧ (∀ k : Nat, k < 40 → 0 ≤ (σ 57 k).toInt ∧ (σ 57 k).toInt ≤ 67) ∧ (∀ k : Nat, k < 40 → (-200) ≤ (σ 58 k).toInt ∧ (σ 58 k).toInt ≤ 500) ∧ (∀ k : Nat, k < 40 → (-200) ≤ (σ 59 k).toInt ∧ (σ 59 k).toInt ≤ 500) := id hI101
  obtain ⟨i28, w29, w30⟩ : (0 ≤ (σ 55 6).toInt ∧ (σ 55 6).toInt ≤ 4) ∧ (∀ k : Nat, k < 4 → 0 ≤ (σ 60 k).toInt ∧ (σ 60 k).toInt ≤ 50) ∧ (∀ k : Nat, k < 4 → 0 ≤ (σ 61 k).toInt ∧ (σ 61 k).toInt ≤ 20) := id hI102
  obtain ⟨i31, i32, i33, w34, w35⟩ : (1 ≤ (σ 55 10).toInt ∧ (σ 55 10).toInt ≤ 8) ∧ (1 ≤ (σ 55 12).toInt ∧ (σ 55 12).toInt ≤ 12) ∧ (0 ≤ (σ 55 13).toInt ∧ (σ 55 13).toInt ≤ 999) ∧ (∀ k : Nat, k < 8 → 0 ≤ (σ 62 k).toInt ∧ (σ 62 k).toInt ≤ 3) ∧ (∀ k : Nat, k < 8 → 0 ≤ (σ 67 k).toInt ∧ (σ 67 k).toInt ≤ 3) := id hI104
  obtain ⟨i36, w37⟩ : (0 ≤ (σ 55 15).toInt ∧ (σ 55 15).toInt ≤ 80) ∧ (∀ k : Nat, k < 2 → (-1) ≤ (σ 65 k).toInt ∧ (σ 65 k).toInt ≤ 80) := id hI105
  obtain ⟨i38, w39, w40, w41⟩ : (0 ≤ (σ 55 32).toInt ∧ (σ 55 32).toInt ≤ 20) ∧ (∀ k : Nat, k < 20 → 0 ≤ (σ 70 k).toInt ∧ (σ 70 k).toInt ≤ 6) ∧ (∀ k : Nat, k < 20 → 0 ≤ (σ 71 k).toInt ∧ (σ 71 k).toInt ≤ 8) ∧ (∀ k : Nat, k < 160 → 0 ≤ (σ 72 k).toInt ∧ (σ 72 k).toInt ≤ 3) := id hI106
  obtain ⟨i42, i43, w44⟩ : (0 ≤ (σ 55 47).toInt ∧ (σ 55 47).toInt ≤ 12) ∧ ((σ 55 47).toInt ≤ (σ 55 12).toInt) ∧ (∀ k : Nat, k < 12 → 0 ≤ (σ 80 k).toInt ∧ (σ 80 k).toInt ≤ 3) := id hI107
  refine lv_aload_n hx hb dL_law_417 rfl (lv_at hl 2 rfl) ?_
  refine lv_aload_n hx hb dL_law_418 rfl (lv_at hl 3 rfl) ?_
  refine lv_iload_n hx hb dL_law_419 rfl (lv_at hl 0 rfl) ?_
  refine lv_iconst (v := 1) hx hb dL_law_420 (of_decide_eq_true rfl) ?_
  have g45 := jrg (rfl : x0.toInt = x0.toInt)
  refine lv_iadd hx hb dL_law_421 ?_
  refine lv_topi (fun x46 ex46 => ?_)
  exact by
   have tx46 : x46.toInt = x0.toInt + 1 := (jadd ex46 rfl jz_1 (by omega) (by omega)).trans (by omega)
   refine va_sld hx hb hX hbl hbA hS (jin tx46 (by omega) (by omega)) dL_law_422 ?_
   have g47 := jrg (rfl : (xs x46.toNatClampNeg).toInt = (xs x46.toNatClampNeg).toInt)
   refine jcallV (As := [.int (xs x46.toNatClampNeg)]) (rest := []) ⟨hx, hb, hml, hown, hts⟩ hK hP hA hS hZ (c_X11_of l D cI cL ad zz hJ σ τ (xs x46.toNatClampNeg) ((xs x46.toNatClampNeg).toInt) rfl hI16) cw_RL_45 (jc_0 cI cL ad σ τ) rfl ⟨Nat.le_of_ble_eq_true rfl, Nat.le_of_ble_eq_true rfl⟩ rfl rfl rfl hl.1 rfl (Nat.le_of_ble_eq_true rfl) dL_law_423 ⟨Nat.le_of_ble_eq_true rfl, Nat.le_of_ble_eq_true rfl⟩ (fun r49 σ48 τ48 H locs h48 hP hS => ?_)
   obtain ⟨⟨rfl, rfl⟩, h48⟩ := h48
   rcases h48 with h50 | h51 | h52 | h53 | h54
   · obtain ⟨q57, k55, k56⟩ := h50
     refine lv_pop hx hb dL_law_426 rfl ?_
     refine lv_aload_n hx hb dL_law_427 rfl (lv_at hl 1 rfl) ?_
     exact by
      refine lv_aload_n hx hb dL_law_428 rfl (lv_at hl 3 rfl) ?_
      refine lv_iload_n hx hb dL_law_429 rfl (lv_at hl 0 rfl) ?_
      refine lv_iconst (v := 1) hx hb dL_law_430 (of_decide_eq_true rfl) ?_
      refine lv_iadd hx hb dL_law_431 ?_
      refine jtopr ex46.symm ?_
      refine va_sld hx hb hX hbl hbA hS (jin tx46 (by omega) (by omega)) dL_law_432 ?_
      refine jcallV (As := [.int (xs x46.toNatClampNeg)]) (rest := []) ⟨hx, hb, hml, hown, hts⟩ hK hP hA hS hZ (c_X12_of l D cI cL ad zz hJ σ τ (xs x46.toNatClampNeg) ((xs x46.toNatClampNeg).toInt) rfl hI104 hI107) cw_RL_48 (jc_55 cI cL ad σ τ) rfl ⟨Nat.le_of_ble_eq_true rfl, Nat.le_of_ble_eq_true rfl⟩ rfl rfl rfl hl.1 rfl (Nat.le_of_ble_eq_true rfl) dL_law_433 ⟨Nat.le_of_ble_eq_true rfl, Nat.le_of_ble_eq_true rfl⟩ (fun r59 σ58 τ58 H locs h58 hP hS => ?_)
      obtain ⟨⟨rfl, rfl⟩, h58⟩ := h58
      rcases h58 with h60 | h61 | h62 | h63 | h64
      · exact by
         obtain ⟨q67, k65, k66⟩ := h60
         refine lv_pop hx hb dL_law_436 rfl ?_
         refine lv_goto (tgt := 1357) hx hb dL_law_437 (of_decide_eq_true rfl) ?_
         obtain ⟨x68, ex68⟩ : ∃ y : Int32, y = x0 + 6 := ⟨_, rfl⟩
         have tx68 : x68.toInt = x0.toInt + 6 := (jadd ex68 rfl jz_6 (by omega) (by omega)).trans (by omega)
         refine lv_iinc (v := x68) (lv' := [(3, .int x68), (2, .ref (ad 55)), (1, .ref (ad 0)), (0, .ref b)]) hx hb dL_law_1357 hl (k := 0) rfl (by rw [ex68]; rfl) (of_decide_eq_true rfl) rfl (fun ls hl => ?_)
         refine lv_goto (tgt := 18) hx hb dL_law_1360 (of_decide_eq_true rfl) ?_
         exact by exact ih x68 σ τ _ _ ls (by have h9 := tx68; omega) ⟨hI2, hI9, hI12, hI16, hI18, hI22, hI31, hI38, hI43, hI47, hI50, hI101, hI102, hI103, hI104, hI105, hI106, hI107, hI109, hI110, hI111, hI119, hs_jKept, hs_jBook, (by omega), (by omega), (by omega), (by omega), (by omega), (by omega), (by omega), (by omega), (by omega), (by omega), (by omega), (by omega), hr0, hr1, hr2, hr3, hr4, hr5, hr6, hr7, hr8, hr9⟩ hP hS (lv_sub hl [0, 1, 2, 3] rfl)
      · obtain ⟨q71, k69, k70⟩ := h61
        exact absurd (by omega : False) id
      · exact by
         obtain ⟨q74, k72, k73⟩ := h62
         exact absurd (by omega : False) id
      · obtain ⟨q78, k75, k76, k77⟩ := h63
        exact absurd (by omega : False) id
      · obtain ⟨q80, k79⟩ := h64
        exact absurd (by omega : False) id
   · obtain ⟨q83, k81, k82⟩ := h51
     refine lv_pop hx hb dL_law_426 rfl ?_
     refine lv_aload_n hx hb dL_law_427 rfl (lv_at hl 1 rfl) ?_
     refine lv_aload_n hx hb dL_law_428 rfl (lv_at hl 3 rfl) ?_
     refine lv_iload_n hx hb dL_law_429 rfl (lv_at hl 0 rfl) ?_
     refine lv_iconst (v := 1) hx hb dL_law_430 (of_decide_eq_true rfl) ?_
     refine lv_iadd hx hb dL_law_431 ?_
     refine jtopr ex46.symm ?_
     exact by
      refine va_sld hx hb hX hbl hbA hS (jin tx46 (by omega) (by omega)) dL_law_432 ?_
      refine jcallV (As := [.int (xs x46.toNatClampNeg)]) (rest := []) ⟨hx, hb, hml, hown, hts⟩ hK hP hA hS hZ (c_X12_of l D cI cL ad zz hJ σ τ (xs x46.toNatClampNeg) ((xs x46.toNatClampNeg).toInt) rfl hI104 hI107) cw_RL_48 (jc_55 cI cL ad σ τ) rfl ⟨Nat.le_of_ble_eq_true rfl, Nat.le_of_ble_eq_true rfl⟩ rfl rfl rfl hl.1 rfl (Nat.le_of_ble_eq_true rfl) dL_law_433 ⟨Nat.le_of_ble_eq_true rfl, Nat.le_of_ble_eq_true rfl⟩ (fun r85 σ84 τ84 H locs h84 hP hS => ?_)
      obtain ⟨⟨rfl, rfl⟩, h84⟩ := h84
      rcases h84 with h86 | h87 | h88 | h89 | h90
      · obtain ⟨q93, k91, k92⟩ := h86
        exact absurd (by omega : False) id
      · obtain ⟨q96, k94, k95⟩ := h87
        refine lv_pop hx hb dL_law_436 rfl ?_
        refine lv_goto (tgt := 1357) hx hb dL_law_437 (of_decide_eq_true rfl) ?_
        obtain ⟨x97, ex97⟩ : ∃ y : Int32, y = x0 + 6 := ⟨_, rfl⟩
        exact by
         have tx97 : x97.toInt = x0.toInt + 6 := (jadd ex97 rfl jz_6 (by omega) (by omega)).trans (by omega)
         refine lv_iinc (v := x97) (lv' := [(3, .int x97), (2, .ref (ad 55)), (1, .ref (ad 0)), (0, .ref b)]) hx hb dL_law_1357 hl (k := 0) rfl (by rw [ex97]; rfl) (of_decide_eq_true rfl) rfl (fun ls hl => ?_)
         refine lv_goto (tgt := 18) hx hb dL_law_1360 (of_decide_eq_true rfl) ?_
         exact by exact ih x97 σ τ _ _ ls (by have h9 := tx97; omega) ⟨hI2, hI9, hI12, hI16, hI18, hI22, hI31, hI38, hI43, hI47, hI50, hI101, hI102, hI103, hI104, hI105, hI106, hI107, hI109, hI110, hI111, hI119, hs_jKept, hs_jBook, (by omega), (by omega), (by omega), (by omega), (by omega), (by omega), (by omega), (by omega), (by omega), (by omega), (by omega), (by omega), hr0, hr1, hr2, hr3, hr4, hr5, hr6, hr7, hr8, hr9⟩ hP hS (lv_sub hl [0, 1, 2, 3] rfl)
      · obtain ⟨q100, k98, k99⟩ := h88
        exact absurd (by omega : False) id
      · obtain ⟨q104, k101, k102, k103⟩ := h89
        exact absurd (by omega : False) id
      · obtain ⟨q106, k105⟩ := h90
        exact absurd (by omega : False) id
   · exact by
      obtain ⟨q109, k107, k108⟩ := h52
      refine lv_pop hx hb dL_law_426 rfl ?_
      refine lv_aload_n hx hb dL_law_427 rfl (lv_at hl 1 rfl) ?_
      refine lv_aload_n hx hb dL_law_428 rfl (lv_at hl 3 rfl) ?_
      refine lv_iload_n hx hb dL_law_429 rfl (lv_at hl 0 rfl) ?_
      refine lv_iconst (v := 1) hx hb dL_law_430 (of_decide_eq_true rfl) ?_
      refine lv_iadd hx hb dL_law_431 ?_
      refine jtopr ex46.symm ?_
      refine va_sld hx hb hX hbl hbA hS (jin tx46 (by omega) (by omega)) dL_law_432 ?_
      exact by
       refine jcallV (As := [.int (xs x46.toNatClampNeg)]) (rest := []) ⟨hx, hb, hml, hown, hts⟩ hK hP hA hS hZ (c_X12_of l D cI cL ad zz hJ σ τ (xs x46.toNatClampNeg) ((xs x46.toNatClampNeg).toInt) rfl hI104 hI107) cw_RL_48 (jc_55 cI cL ad σ τ) rfl ⟨Nat.le_of_ble_eq_true rfl, Nat.le_of_ble_eq_true rfl⟩ rfl rfl rfl hl.1 rfl (Nat.le_of_ble_eq_true rfl) dL_law_433 ⟨Nat.le_of_ble_eq_true rfl, Nat.le_of_ble_eq_true rfl⟩ (fun r111 σ110 τ110 H locs h110 hP hS => ?_)
       obtain ⟨⟨rfl, rfl⟩, h110⟩ := h110
       rcases h110 with h112 | h113 | h114 | h115 | h116
       · obtain ⟨q119, k117, k118⟩ := h112
         exact absurd (by omega : False) id
       · obtain ⟨q122, k120, k121⟩ := h113
         exact absurd (by omega : False) id
       · obtain ⟨q125, k123, k124⟩ := h114
         refine lv_pop hx hb dL_law_436 rfl ?_
         refine lv_goto (tgt := 1357) hx hb dL_law_437 (of_decide_eq_true rfl) ?_
         obtain ⟨x126, ex126⟩ : ∃ y : Int32, y = x0 + 6 := ⟨_, rfl⟩
         exact by
          have tx126 : x126.toInt = x0.toInt + 6 := (jadd ex126 rfl jz_6 (by omega) (by omega)).trans (by omega)
          refine lv_iinc (v := x126) (lv' := [(3, .int x126), (2, .ref (ad 55)), (1, .ref (ad 0)), (0, .ref b)]) hx hb dL_law_1357 hl (k := 0) rfl (by rw [ex126]; rfl) (of_decide_eq_true rfl) rfl (fun ls hl => ?_)
          refine lv_goto (tgt := 18) hx hb dL_law_1360 (of_decide_eq_true rfl) ?_
          exact by exact ih x126 σ τ _ _ ls (by have h9 := tx126; omega) ⟨hI2, hI9, hI12, hI16, hI18, hI22, hI31, hI38, hI43, hI47, hI50, hI101, hI102, hI103, hI104, hI105, hI106, hI107, hI109, hI110, hI111, hI119, hs_jKept, hs_jBook, (by omega), (by omega), (by omega), (by omega), (by omega), (by omega), (by omega), (by omega), (by omega), (by omega), (by omega), (by omega), hr0, hr1, hr2, hr3, hr4, hr5, hr6, hr7, hr8, hr9⟩ hP hS (lv_sub hl [0, 1, 2, 3] rfl)
       · obtain ⟨q130, k127, k128, k129⟩ := h115
         exact absurd (by omega : False) id
       · obtain ⟨q132, k131⟩ := h116
         exact absurd (by omega : False) id
   · obtain ⟨q136, k133, k134, k135⟩ := h53
     exact by
      refine lv_pop hx hb dL_law_426 rfl ?_
      refine lv_aload_n hx hb dL_law_427 rfl (lv_at hl 1 rfl) ?_
      refine lv_aload_n hx hb dL_law_428 rfl (lv_at hl 3 rfl) ?_
      refine lv_iload_n hx hb dL_law_429 rfl (lv_at hl 0 rfl) ?_
      refine lv_iconst (v := 1) hx hb dL_law_430 (of_decide_eq_true rfl) ?_
      refine lv_iadd hx hb dL_law_431 ?_
      refine jtopr ex46.symm ?_
      refine va_sld hx hb hX hbl hbA hS (jin tx46 (by omega) (by omega)) dL_law_432 ?_
      refine jcallV (As := [.int (xs x46.toNatClampNeg)]) (rest := []) ⟨hx, hb, hml, hown, hts⟩ hK hP hA hS hZ (c_X12_of l D cI cL ad zz hJ σ τ (xs x46.toNatClampNeg) ((xs x46.toNatClampNeg).toInt) rfl hI104 hI107) cw_RL_48 (jc_55 cI cL ad σ τ) rfl ⟨Nat.le_of_ble_eq_true rfl, Nat.le_of_ble_eq_true rfl⟩ rfl rfl rfl hl.1 rfl (Nat.le_of_ble_eq_true rfl) dL_law_433 ⟨Nat.le_of_ble_eq_true rfl, Nat.le_of_ble_eq_true rfl⟩ (fun r138 σ137 τ137 H locs h137 hP hS => ?_)
      exact by
       obtain ⟨⟨rfl, rfl⟩, h137⟩ := h137
       rcases h137 with h139 | h140 | h141 | h142 | h143
       · obtain ⟨q146, k144, k145⟩ := h139
         exact absurd (by omega : False) id
       · obtain ⟨q149, k147, k148⟩ := h140
         exact absurd (by omega : False) id
       · obtain ⟨q152, k150, k151⟩ := h141
         exact absurd (by omega : False) id
       · obtain ⟨q156, k153, k154, k155⟩ := h142
         refine lv_pop hx hb dL_law_436 rfl ?_
         refine lv_goto (tgt := 1357) hx hb dL_law_437 (of_decide_eq_true rfl) ?_
         obtain ⟨x157, ex157⟩ : ∃ y : Int32, y = x0 + 6 := ⟨_, rfl⟩
         exact by
          have tx157 : x157.toInt = x0.toInt + 6 := (jadd ex157 rfl jz_6 (by omega) (by omega)).trans (by omega)
          refine lv_iinc (v := x157) (lv' := [(3, .int x157), (2, .ref (ad 55)), (1, .ref (ad 0)), (0, .ref b)]) hx hb dL_law_1357 hl (k := 0) rfl (by rw [ex157]; rfl) (of_decide_eq_true rfl) rfl (fun ls hl => ?_)
          refine lv_goto (tgt := 18) hx hb dL_law_1360 (of_decide_eq_true rfl) ?_
          exact by exact ih x157 σ τ _ _ ls (by have h9 := tx157; omega) ⟨hI2, hI9, hI12, hI16, hI18, hI22, hI31, hI38, hI43, hI47, hI50, hI101, hI102, hI103, hI104, hI105, hI106, hI107, hI109, hI110, hI111, hI119, hs_jKept, hs_jBook, (by omega), (by omega), (by omega), (by omega), (by omega), (by omega), (by omega), (by omega), (by omega), (by omega), (by omega), (by omega), hr0, hr1, hr2, hr3, hr4, hr5, hr6, hr7, hr8, hr9⟩ hP hS (lv_sub hl [0, 1, 2, 3] rfl)
       · obtain ⟨q159, k158⟩ := h143
         exact absurd (by omega : False) id
   · obtain ⟨q161, k160⟩ := h54
     have q161 := q161.symm
     subst q161
     exact by
      refine lv_pop hx hb dL_law_426 rfl ?_
      refine lv_aload_n hx hb dL_law_427 rfl (lv_at hl 1 rfl) ?_
      refine lv_aload_n hx hb dL_law_428 rfl (lv_at hl 3 rfl) ?_
      refine lv_iload_n hx hb dL_law_429 rfl (lv_at hl 0 rfl) ?_
      refine lv_iconst (v := 1) hx hb dL_law_430 (of_decide_eq_true rfl) ?_
      refine lv_iadd hx hb dL_law_431 ?_
      refine jtopr ex46.symm ?_
      refine va_sld hx hb hX hbl hbA hS (jin tx46 (by omega) (by omega)) dL_law_432 ?_
      refine jcallV (As := [.int (xs x46.toNatClampNeg)]) (rest := []) ⟨hx, hb, hml, hown, hts⟩ hK hP hA hS hZ (c_X12_of l D cI cL ad zz hJ σ τ (xs x46.toNatClampNeg) ((xs x46.toNatClampNeg).toInt) rfl hI104 hI107) cw_RL_48 (jc_55 cI cL ad σ τ) rfl ⟨Nat.le_of_ble_eq_true rfl, Nat.le_of_ble_eq_true rfl⟩ rfl rfl rfl hl.1 rfl (Nat.le_of_ble_eq_true rfl) dL_law_433 ⟨Nat.le_of_ble_eq_true rfl, Nat.le_of_ble_eq_true rfl⟩ (fun r163 σ162 τ162 H locs h162 hP hS => ?_)
      exact by
       obtain ⟨⟨rfl, rfl⟩, h162⟩ := h162
       rcases h162 with h164 | h165 | h166 | h167 | h168
       · obtain ⟨q171, k169, k170⟩ := h164
         exact absurd (by omega : False) id
       · obtain ⟨q174, k172, k173⟩ := h165
         exact absurd (by omega : False) id
       · obtain ⟨q177, k175, k176⟩ := h166
         exact absurd (by omega : False) id
       · obtain ⟨q181, k178, k179, k180⟩ := h167
         exact absurd (by omega : False) id
       · obtain ⟨q183, k182⟩ := h168
         have q183 := q183.symm
         subst q183
         refine lv_pop hx hb dL_law_436 rfl ?_
         refine lv_goto (tgt := 1357) hx hb dL_law_437 (of_decide_eq_true rfl) ?_
         obtain ⟨x184, ex184⟩ : ∃ y : Int32, y = x0 + 6 := ⟨_, rfl⟩
         exact by
          have tx184 : x184.toInt = x0.toInt + 6 := (jadd ex184 rfl jz_6 (by omega) (by omega)).trans (by omega)
          refine lv_iinc (v := x184) (lv' := [(3, .int x184), (2, .ref (ad 55)), (1, .ref (ad 0)), (0, .ref b)]) hx hb dL_law_1357 hl (k := 0) rfl (by rw [ex184]; rfl) (of_decide_eq_true rfl) rfl (fun ls hl => ?_)
          refine lv_goto (tgt := 18) hx hb dL_law_1360 (of_decide_eq_true rfl) ?_
          exact by exact ih x184 σ τ _ _ ls (by have h9 := tx184; omega) ⟨hI2, hI9, hI12, hI16, hI18, hI22, hI31, hI38, hI43, hI47, hI50, hI101, hI102, hI103, hI104, hI105, hI106, hI107, hI109, hI110, hI111, hI119, hs_jKept, hs_jBook, (by omega), (by omega), (by omega), (by omega), (by omega), (by omega), (by omega), (by omega), (by omega), (by omega), (by omega), (by omega), hr0, hr1, hr2, hr3, hr4, hr5, hr6, hr7, hr8, hr9⟩ hP hS (lv_sub hl [0, 1, 2, 3] rfl)
set_option maxHeartbeats 4000000 in
set_option maxRecDepth 100000 in
theorem law_case_8 {p : Program} {e : Env} {s : State} {m : MethodId} {below : List Frame} {meth : Method} {c : Code} (l : Launch) {b L : Nat} {xs : Nat → Int32} {D : va_G} {cI cL : ClassId} {ad zz : Nat → Nat} (C0 : lw_At p s m meth c b L xs) (hJ : jD ad) (hA : ∀ q, jA ad q → s.heap.size ≤ q) (hK : jK D cI cL s) (hZ : jZ zz (fun q : Nat => s.heap.size ≤ q) s s.heap) {x0 : Int32} (hx0 : 0 ≤ x0.toInt) (hxL : x0.toInt + 6 ≤ (L : Int)) (hL : L ≤ 384) {σ : Nat → Nat → Int32} {τ : Nat → Nat → Int64} {H : Heap} {locs : List Loc} (hS : va_S (fun q : Nat => s.heap.size ≤ q) s.heap H locs) {ls : Array Slot} (hAll : jAll σ τ) (hP : jH D cI cL ad σ τ H) (hl : lv_has ls 4 [(3, .int x0), (2, .ref (ad 55)), (1, .ref (ad 0)), (0, .ref b)]) (ih : ∀ (x1 : Int32) (σ : Nat → Nat → Int32) (τ : Nat → Nat → Int64) (H : Heap) (locs : List Loc) (ls : Array Slot), x1.toInt = x0.toInt + 6 → jAll σ τ → jH D cI cL ad σ τ H → va_S (fun q : Nat => s.heap.size ≤ q) s.heap H locs → lv_has ls 4 [(3, .int x1), (2, .ref (ad 55)), (1, .ref (ad 0)), (0, .ref b)] → W p l e room_1 s m #[Value.ref b] below meth c H locs 90 348600 (lw_Z below #[Value.ref b] s) (F0 m 18 ls [])) : W p l e room_1 s m #[Value.ref b] below meth c H locs 90 348600 (lw_Z below #[Value.ref b] s) (F0 m 440 ls []) := by
  obtain ⟨hx, hb, hr, hml, hown, hts0, hX, hbl, hlocks, hgv⟩ := C0
  have hts : ∀ w ∈ wsL_law, w.before #[Value.ref b] s = true := fun w h => hts0 w (wsL_law_in w h)
  have hbA : ¬ (fun q : Nat => s.heap.size ≤ q) b := Nat.not_le.mpr hbl
  have hown : s.vm.findClass RL = some m.cls := hown
  obtain ⟨hI2, hI9, hI12, hI16, hI18, hI22, hI31, hI38, hI43, hI47, hI50, hI101, hI102, hI103, hI104, hI105, hI106, hI107, hI109, hI110, hI111, hI119, hs_jKept, hs_jBook, ht0, ht1, ht2, ht3, ht4, ht5, ht6, ht7, ht8, ht9, ht10, ht11, hr0, hr1, hr2, hr3, hr4, hr5, hr6, hr7, hr8, hr9⟩ := hAll
  have hL9 : (L : Int) ≤ 384 := by omega
  obtain ⟨i1, i2, i3, i4, i5, w6⟩ : (0 ≤ (σ 2 0).toInt ∧ (σ 2 0).toInt ≤ 4) ∧ (0 ≤ (σ 2 1).toInt ∧ (σ 2 1).toInt ≤ 3) ∧ (0 ≤ (σ 2 2).toInt) ∧ (0 ≤ (σ 2 3).toInt) ∧ ((σ 2 2).toInt + (σ 2 3).toInt ≤ 40) ∧ (∀ k : Nat, k < 40 → 0 ≤ (σ 6 k).toInt ∧ (σ 6 k).toInt ≤ 67) := id hI2
  obtain ⟨i7, w8, w9⟩ : (0 ≤ (σ 9 0).toInt ∧ (σ 9 0).toInt ≤ 80) ∧ (∀ k : Nat, k < 80 → 0 ≤ (σ 10 k).toInt ∧ (σ 10 k).toInt ≤ 255) ∧ (∀ k : Nat, k < 8 → 0 ≤ (σ 11 k).toInt ∧ (σ 11 k).toInt ≤ 3) := id hI9
  obtain ⟨i10, i11, i12, w13⟩ : (1 ≤ (σ 16 0).toInt ∧ (σ 16 0).toInt ≤ 8) ∧ (1 ≤ (σ 16 1).toInt ∧ (σ 16 1).toInt ≤ 12) ∧ (0 ≤ (σ 16 2).toInt ∧ (σ 16 2).toInt ≤ 999) ∧ (∀ k : Nat, k < 8 → 0 ≤ (σ 17 k).toInt ∧ (σ 17 k).toInt ≤ 3) := id hI16
  obtain ⟨i14, i15, w16⟩ : (0 ≤ (σ 38 0).toInt ∧ (σ 38 0).toInt ≤ 20) ∧ (0 ≤ (σ 38 1).toInt ∧ (σ 38 1).toInt ≤ 1000) ∧ (∀ k : Nat, k < 20 → 0 ≤ (σ 39 k).toInt ∧ (σ 39 k).toInt ≤ 6) := id hI38
  obtain ⟨i17, w18, w19⟩ : (0 ≤ (σ 47 0).toInt ∧ (σ 47 0).toInt ≤ 12) ∧ (∀ k : Nat, k < 12 → 0 ≤ (σ 48 k).toInt ∧ (σ 48 k).toInt ≤ 3) ∧ (∀ k : Nat, k < 12 → 0 ≤ (σ 49 k).toInt ∧ (σ 49 k).toInt ≤ 1) := id hI47
  have w20 : ∀ k : Nat, k < 6 → 0 ≤ (σ 52 k).toInt ∧ (σ 52 k).toInt ≤ 60 := hI50
  obtain ⟨i21, i22, i23, w24, w25, w26, w27⟩ : (0 ≤ (σ 55 5).toInt) ∧ ((σ 55 5).toInt ≤ (σ 55 4).toInt) ∧ ((σ 55 4).toInt ≤ 40) ∧ (∀ k : Nat, k < 68 → (-200) ≤ (σ 56 k).toInt ∧ (σ 56 k).toInt ≤ 500) ∧ (∀ k : Nat, k < 40 → 0 ≤ (σ 57 k).toInt ∧ (σ 57 k).toInt ≤ 67) ∧ (∀ k : Nat, k < 40 → (-200) ≤ (σ 58 k).toInt ∧ (σ 58 k).toInt ≤ 500) ∧ (∀ k : Nat, k < 40 → (-200) ≤ (σ 59 k).toInt ∧ (σ 59 k).toInt ≤ 500) := id hI101
  obtain ⟨i28, w29, w30⟩ : (0 ≤ (σ 55 6).toInt ∧ (σ 55 6).toInt ≤ 4) ∧ (∀ k : Nat, k < 4 → 0 ≤ (σ 60 k).toInt ∧ (σ 60 k).toInt ≤ 50) ∧ (∀ k : Nat, k < 4 → 0 ≤ (σ 61 k).toInt ∧ (σ 61 k).toInt ≤ 20) := id hI102
  obtain ⟨i31, i32, i33, w34, w35⟩ : (1 ≤ (σ 55 10).toInt ∧ (σ 55 10).toInt ≤ 8) ∧ (1 ≤ (σ 55 12).toInt ∧ (σ 55 12).toInt ≤ 12) ∧ (0 ≤ (σ 55 13).toInt ∧ (σ 55 13).toInt ≤ 999) ∧ (∀ k : Nat, k < 8 → 0 ≤ (σ 62 k).toInt ∧ (σ 62 k).toInt ≤ 3) ∧ (∀ k : Nat, k < 8 → 0 ≤ (σ 67 k).toInt ∧ (σ 67 k).toInt ≤ 3) := id hI104
  obtain ⟨i36, w37⟩ : (0 ≤ (σ 55 15).toInt ∧ (σ 55 15).toInt ≤ 80) ∧ (∀ k : Nat, k < 2 → (-1) ≤ (σ 65 k).toInt ∧ (σ 65 k).toInt ≤ 80) := id hI105
  obtain ⟨i38, w39, w40, w41⟩ : (0 ≤ (σ 55 32).toInt ∧ (σ 55 32).toInt ≤ 20) ∧ (∀ k : Nat, k < 20 → 0 ≤ (σ 70 k).toInt ∧ (σ 70 k).toInt ≤ 6) ∧ (∀ k : Nat, k < 20 → 0 ≤ (σ 71 k).toInt ∧ (σ 71 k).toInt ≤ 8) ∧ (∀ k : Nat, k < 160 → 0 ≤ (σ 72 k).toInt ∧ (σ 72 k).toInt ≤ 3) := id hI106
  obtain ⟨i42, i43, w44⟩ : (0 ≤ (σ 55 47).toInt ∧ (σ 55 47).toInt ≤ 12) ∧ ((σ 55 47).toInt ≤ (σ 55 12).toInt) ∧ (∀ k : Nat, k < 12 → 0 ≤ (σ 80 k).toInt ∧ (σ 80 k).toInt ≤ 3) := id hI107
  refine lv_aload_n hx hb dL_law_440 rfl (lv_at hl 2 rfl) ?_
  refine lv_aload_n hx hb dL_law_441 rfl (lv_at hl 3 rfl) ?_
  refine lv_iload_n hx hb dL_law_442 rfl (lv_at hl 0 rfl) ?_
  refine lv_iconst (v := 1) hx hb dL_law_443 (of_decide_eq_true rfl) ?_
  have g45 := jrg (rfl : x0.toInt = x0.toInt)
  refine lv_iadd hx hb dL_law_444 ?_
  refine lv_topi (fun x46 ex46 => ?_)
  exact by
   have tx46 : x46.toInt = x0.toInt + 1 := (jadd ex46 rfl jz_1 (by omega) (by omega)).trans (by omega)
   refine va_sld hx hb hX hbl hbA hS (jin tx46 (by omega) (by omega)) dL_law_445 ?_
   have g47 := jrg (rfl : (xs x46.toNatClampNeg).toInt = (xs x46.toNatClampNeg).toInt)
   refine lv_aload_n hx hb dL_law_446 rfl (lv_at hl 3 rfl) ?_
   refine lv_iload_n hx hb dL_law_447 rfl (lv_at hl 0 rfl) ?_
   refine lv_iconst (v := 2) hx hb dL_law_448 (of_decide_eq_true rfl) ?_
   refine lv_iadd hx hb dL_law_449 ?_
   refine lv_topi (fun x48 ex48 => ?_)
   have tx48 : x48.toInt = x0.toInt + 2 := (jadd ex48 rfl jz_2 (by omega) (by omega)).trans (by omega)
   exact by
    refine va_sld hx hb hX hbl hbA hS (jin tx48 (by omega) (by omega)) dL_law_450 ?_
    have g49 := jrg (rfl : (xs x48.toNatClampNeg).toInt = (xs x48.toNatClampNeg).toInt)
    refine lv_aload_n hx hb dL_law_451 rfl (lv_at hl 3 rfl) ?_
    refine lv_iload_n hx hb dL_law_452 rfl (lv_at hl 0 rfl) ?_
    refine lv_iconst (v := 3) hx hb dL_law_453 (of_decide_eq_true rfl) ?_
    refine lv_iadd hx hb dL_law_454 ?_
    refine lv_topi (fun x50 ex50 => ?_)
    have tx50 : x50.toInt = x0.toInt + 3 := (jadd ex50 rfl jz_3 (by omega) (by omega)).trans (by omega)
    refine va_sld hx hb hX hbl hbA hS (jin tx50 (by omega) (by omega)) dL_law_455 ?_
    exact by
     have g51 := jrg (rfl : (xs x50.toNatClampNeg).toInt = (xs x50.toNatClampNeg).toInt)
     refine jcallV (As := [.int (xs x46.toNatClampNeg), .int (xs x48.toNatClampNeg), .int (xs x50.toNatClampNeg)]) (rest := []) ⟨hx, hb, hml, hown, hts⟩ hK hP hA hS hZ (c_X11_over l D cI cL ad zz hJ σ τ (xs x46.toNatClampNeg) ((xs x46.toNatClampNeg).toInt) rfl (xs x48.toNatClampNeg) ((xs x48.toNatClampNeg).toInt) rfl (xs x50.toNatClampNeg) ((xs x50.toNatClampNeg).toInt) rfl hI2 hI22) cw_RL_49 (jc_0 cI cL ad σ τ) rfl ⟨Nat.le_of_ble_eq_true rfl, Nat.le_of_ble_eq_true rfl⟩ rfl rfl rfl hl.1 rfl (Nat.le_of_ble_eq_true rfl) dL_law_456 ⟨Nat.le_of_ble_eq_true rfl, Nat.le_of_ble_eq_true rfl⟩ (fun r53 σ52 τ52 H locs h52 hP hS => ?_)
     obtain ⟨rfl, f54, h52⟩ := h52
     refine lv_pop hx hb dL_law_459 rfl ?_
     refine lv_aload_n hx hb dL_law_460 rfl (lv_at hl 1 rfl) ?_
     refine lv_aload_n hx hb dL_law_461 rfl (lv_at hl 3 rfl) ?_
     refine lv_iload_n hx hb dL_law_462 rfl (lv_at hl 0 rfl) ?_
     refine lv_iconst (v := 1) hx hb dL_law_463 (of_decide_eq_true rfl) ?_
     refine lv_iadd hx hb dL_law_464 ?_
     refine jtopr ex46.symm ?_
     exact by
      refine va_sld hx hb hX hbl hbA hS (jin tx46 (by omega) (by omega)) dL_law_465 ?_
      refine lv_aload_n hx hb dL_law_466 rfl (lv_at hl 3 rfl) ?_
      refine lv_iload_n hx hb dL_law_467 rfl (lv_at hl 0 rfl) ?_
      refine lv_iconst (v := 2) hx hb dL_law_468 (of_decide_eq_true rfl) ?_
      refine lv_iadd hx hb dL_law_469 ?_
      refine jtopr ex48.symm ?_
      refine va_sld hx hb hX hbl hbA hS (jin tx48 (by omega) (by omega)) dL_law_470 ?_
      refine lv_aload_n hx hb dL_law_471 rfl (lv_at hl 3 rfl) ?_
      refine lv_iload_n hx hb dL_law_472 rfl (lv_at hl 0 rfl) ?_
      exact by
       refine lv_iconst (v := 3) hx hb dL_law_473 (of_decide_eq_true rfl) ?_
       refine lv_iadd hx hb dL_law_474 ?_
       refine jtopr ex50.symm ?_
       refine va_sld hx hb hX hbl hbA hS (jin tx50 (by omega) (by omega)) dL_law_475 ?_
       have I56 : jI101 σ52 := jI101_fr (congrFun (f54 55 (of_decide_eq_true rfl)) 4) (congrFun (f54 55 (of_decide_eq_true rfl)) 5) (f54 56 (of_decide_eq_true rfl)) (f54 57 (of_decide_eq_true rfl)) (f54 58 (of_decide_eq_true rfl)) (f54 59 (of_decide_eq_true rfl)) hI101
       have I57 : jI102 σ52 := jI102_fr (congrFun (f54 55 (of_decide_eq_true rfl)) 6) (f54 60 (of_decide_eq_true rfl)) (f54 61 (of_decide_eq_true rfl)) hI102
       have I58 : jI103 σ52 := jI103_fr (congrFun (f54 55 (of_decide_eq_true rfl)) 9) hI103
       have I59 : jI104 σ52 := jI104_fr (congrFun (f54 55 (of_decide_eq_true rfl)) 10) (congrFun (f54 55 (of_decide_eq_true rfl)) 12) (congrFun (f54 55 (of_decide_eq_true rfl)) 13) (f54 62 (of_decide_eq_true rfl)) (f54 67 (of_decide_eq_true rfl)) hI104
       have I60 : jI105 σ52 := jI105_fr (congrFun (f54 55 (of_decide_eq_true rfl)) 15) (f54 65 (of_decide_eq_true rfl)) hI105
       exact by
        have I61 : jI119 σ52 := jI119_fr (f54 68 (of_decide_eq_true rfl)) hI119
        refine jcallV (As := [.int (xs x46.toNatClampNeg), .int (xs x48.toNatClampNeg), .int (xs x50.toNatClampNeg)]) (rest := []) ⟨hx, hb, hml, hown, hts⟩ hK hP hA hS hZ (c_X12_over l D cI cL ad zz hJ σ52 τ (xs x46.toNatClampNeg) ((xs x46.toNatClampNeg).toInt) rfl (xs x48.toNatClampNeg) ((xs x48.toNatClampNeg).toInt) rfl (xs x50.toNatClampNeg) ((xs x50.toNatClampNeg).toInt) rfl I56 I57 I58 I59 I60 I61) cw_RL_52 (jc_55 cI cL ad σ52 τ) rfl ⟨Nat.le_of_ble_eq_true rfl, Nat.le_of_ble_eq_true rfl⟩ rfl rfl rfl hl.1 rfl (Nat.le_of_ble_eq_true rfl) dL_law_476 ⟨Nat.le_of_ble_eq_true rfl, Nat.le_of_ble_eq_true rfl⟩ (fun r63 σ62 τ62 H locs h62 hP hS => ?_)
        obtain ⟨rfl, f64, f65, I66, h62⟩ := h62
        refine lv_pop hx hb dL_law_479 rfl ?_
        refine lv_goto (tgt := 1357) hx hb dL_law_480 (of_decide_eq_true rfl) ?_
        obtain ⟨x68, ex68⟩ : ∃ y : Int32, y = x0 + 6 := ⟨_, rfl⟩
        have tx68 : x68.toInt = x0.toInt + 6 := (jadd ex68 rfl jz_6 (by omega) (by omega)).trans (by omega)
        refine lv_iinc (v := x68) (lv' := [(3, .int x68), (2, .ref (ad 55)), (1, .ref (ad 0)), (0, .ref b)]) hx hb dL_law_1357 hl (k := 0) rfl (by rw [ex68]; rfl) (of_decide_eq_true rfl) rfl (fun ls hl => ?_)
        refine lv_goto (tgt := 18) hx hb dL_law_1360 (of_decide_eq_true rfl) ?_
        exact by
         have I69 : jI2 σ62 := jI2_fr ((congrFun (f64 2 (of_decide_eq_true rfl)) 0).trans (congrFun (f54 2 (of_decide_eq_true rfl)) 0)) ((congrFun (f64 2 (of_decide_eq_true rfl)) 1).trans (congrFun (f54 2 (of_decide_eq_true rfl)) 1)) ((congrFun (f64 2 (of_decide_eq_true rfl)) 2).trans (congrFun (f54 2 (of_decide_eq_true rfl)) 2)) ((congrFun (f64 2 (of_decide_eq_true rfl)) 3).trans (congrFun (f54 2 (of_decide_eq_true rfl)) 3)) ((f64 6 (of_decide_eq_true rfl)).trans (f54 6 (of_decide_eq_true rfl))) hI2
         have I70 : jI9 σ62 := jI9_fr ((congrFun (f64 9 (of_decide_eq_true rfl)) 0).trans (congrFun (f54 9 (of_decide_eq_true rfl)) 0)) ((f64 10 (of_decide_eq_true rfl)).trans (f54 10 (of_decide_eq_true rfl))) ((f64 11 (of_decide_eq_true rfl)).trans (f54 11 (of_decide_eq_true rfl))) hI9
         have I71 : jI12 σ62 := jI12_fr ((congrFun (f64 12 (of_decide_eq_true rfl)) 0).trans (congrFun (f54 12 (of_decide_eq_true rfl)) 0)) ((f64 13 (of_decide_eq_true rfl)).trans (f54 13 (of_decide_eq_true rfl))) hI12
         have I72 : jI16 σ62 := jI16_fr ((congrFun (f64 16 (of_decide_eq_true rfl)) 0).trans (congrFun (f54 16 (of_decide_eq_true rfl)) 0)) ((congrFun (f64 16 (of_decide_eq_true rfl)) 1).trans (congrFun (f54 16 (of_decide_eq_true rfl)) 1)) ((congrFun (f64 16 (of_decide_eq_true rfl)) 2).trans (congrFun (f54 16 (of_decide_eq_true rfl)) 2)) ((f64 17 (of_decide_eq_true rfl)).trans (f54 17 (of_decide_eq_true rfl))) hI16
         have I73 : jI18 σ62 := jI18_fr ((congrFun (f64 18 (of_decide_eq_true rfl)) 0).trans (congrFun (f54 18 (of_decide_eq_true rfl)) 0)) ((f64 19 (of_decide_eq_true rfl)).trans (f54 19 (of_decide_eq_true rfl))) hI18
         have I74 : jI22 σ62 := jI22_fr ((congrFun (f64 22 (of_decide_eq_true rfl)) 0).trans (congrFun (f54 22 (of_decide_eq_true rfl)) 0)) ((f64 23 (of_decide_eq_true rfl)).trans (f54 23 (of_decide_eq_true rfl))) hI22
         have I75 : jI31 σ62 := jI31_fr ((congrFun (f64 31 (of_decide_eq_true rfl)) 8).trans (congrFun (f54 31 (of_decide_eq_true rfl)) 8)) ((f64 33 (of_decide_eq_true rfl)).trans (f54 33 (of_decide_eq_true rfl))) ((f64 36 (of_decide_eq_true rfl)).trans (f54 36 (of_decide_eq_true rfl))) hI31
         have I76 : jI38 σ62 := jI38_fr ((congrFun (f64 38 (of_decide_eq_true rfl)) 0).trans (congrFun (f54 38 (of_decide_eq_true rfl)) 0)) ((congrFun (f64 38 (of_decide_eq_true rfl)) 1).trans (congrFun (f54 38 (of_decide_eq_true rfl)) 1)) ((f64 39 (of_decide_eq_true rfl)).trans (f54 39 (of_decide_eq_true rfl))) hI38
         have I77 : jI43 σ62 := jI43_fr ((congrFun (f64 43 (of_decide_eq_true rfl)) 8).trans (congrFun (f54 43 (of_decide_eq_true rfl)) 8)) hI43
         have I78 : jI47 σ62 := jI47_fr ((congrFun (f64 47 (of_decide_eq_true rfl)) 0).trans (congrFun (f54 47 (of_decide_eq_true rfl)) 0)) ((f64 48 (of_decide_eq_true rfl)).trans (f54 48 (of_decide_eq_true rfl))) ((f64 49 (of_decide_eq_true rfl)).trans (f54 49 (of_decide_eq_true rfl))) hI47
         have I79 : jI50 σ62 := jI50_fr ((f64 52 (of_decide_eq_true rfl)).trans (f54 52 (of_decide_eq_true rfl))) hI50
         have I80 : jI101 σ62 := jI101_fr (f65 4 (of_decide_eq_true rfl)) (f65 5 (of_decide_eq_true rfl)) (f64 56 (of_decide_eq_true rfl)) (f64 57 (of_decide_eq_true rfl)) (f64 58 (of_decide_eq_true rfl)) (f64 59 (of_decide_eq_true rfl)) I56
         have I81 : jI102 σ62 := jI102_fr (f65 6 (of_decide_eq_true rfl)) (f64 60 (of_decide_eq_true rfl)) (f64 61 (of_decide_eq_true rfl)) I57
         have I82 : jI103 σ62 := jI103_fr (f65 9 (of_decide_eq_true rfl)) I58
         have I83 : jI104 σ62 := jI104_fr (f65 10 (of_decide_eq_true rfl)) (f65 12 (of_decide_eq_true rfl)) (f65 13 (of_decide_eq_true rfl)) (f64 62 (of_decide_eq_true rfl)) (f64 67 (of_decide_eq_true rfl)) I59
         have I84 : jI105 σ62 := jI105_fr (f65 15 (of_decide_eq_true rfl)) (f64 65 (of_decide_eq_true rfl)) I60
         have I85 : jI106 σ62 := jI106_fr ((f65 32 (of_decide_eq_true rfl)).trans (congrFun (f54 55 (of_decide_eq_true rfl)) 32)) ((f64 70 (of_decide_eq_true rfl)).trans (f54 70 (of_decide_eq_true rfl))) ((f64 71 (of_decide_eq_true rfl)).trans (f54 71 (of_decide_eq_true rfl))) ((f64 72 (of_decide_eq_true rfl)).trans (f54 72 (of_decide_eq_true rfl))) hI106
         have I86 : jI107 σ62 := jI107_fr ((f65 12 (of_decide_eq_true rfl)).trans (congrFun (f54 55 (of_decide_eq_true rfl)) 12)) ((f65 47 (of_decide_eq_true rfl)).trans (congrFun (f54 55 (of_decide_eq_true rfl)) 47)) ((f64 80 (of_decide_eq_true rfl)).trans (f54 80 (of_decide_eq_true rfl))) hI107
         have I87 : jI109 σ62 := jI109_fr ((f65 50 (of_decide_eq_true rfl)).trans (congrFun (f54 55 (of_decide_eq_true rfl)) 50)) hI109
         have I88 : jI110 σ62 := jI110_fr ((f64 86 (of_decide_eq_true rfl)).trans (f54 86 (of_decide_eq_true rfl))) ((f64 87 (of_decide_eq_true rfl)).trans (f54 87 (of_decide_eq_true rfl))) hI110
         have I89 : jI111 σ62 := jI111_fr ((f64 79 (of_decide_eq_true rfl)).trans (f54 79 (of_decide_eq_true rfl))) hI111
         have p90 : jKept σ62 := jKept.fr ((f64 75 (of_decide_eq_true rfl)).trans (f54 75 (of_decide_eq_true rfl))) ((f64 76 (of_decide_eq_true rfl)).trans (f54 76 (of_decide_eq_true rfl))) ((f64 77 (of_decide_eq_true rfl)).trans (f54 77 (of_decide_eq_true rfl))) hs_jKept
         have p91 : jBook σ62 := jBook.fr ((f65 47 (of_decide_eq_true rfl)).trans (congrFun (f54 55 (of_decide_eq_true rfl)) 47)) ((f65 10 (of_decide_eq_true rfl)).trans (congrFun (f54 55 (of_decide_eq_true rfl)) 10)) ((f64 81 (of_decide_eq_true rfl)).trans (f54 81 (of_decide_eq_true rfl))) hs_jBook
         have z92 : (σ62 2 0).toInt = (σ 2 0).toInt := (congrArg Int32.toInt (show σ62 2 0 = (σ 2 0) from ((congrFun (f64 2 (of_decide_eq_true rfl)) 0).trans (congrFun (f54 2 (of_decide_eq_true rfl)) 0))))
         have z93 : (σ62 55 6).toInt = (σ 55 6).toInt := (congrArg Int32.toInt (show σ62 55 6 = (σ 55 6) from ((f65 6 (of_decide_eq_true rfl)).trans (congrFun (f54 55 (of_decide_eq_true rfl)) 6))))
         have z94 : (σ62 2 2).toInt = (σ 2 2).toInt := (congrArg Int32.toInt (show σ62 2 2 = (σ 2 2) from ((congrFun (f64 2 (of_decide_eq_true rfl)) 2).trans (congrFun (f54 2 (of_decide_eq_true rfl)) 2))))
         have z95 : (σ62 55 5).toInt = (σ 55 5).toInt := (congrArg Int32.toInt (show σ62 55 5 = (σ 55 5) from ((f65 5 (of_decide_eq_true rfl)).trans (congrFun (f54 55 (of_decide_eq_true rfl)) 5))))
         have z96 : (σ62 2 3).toInt = (σ 2 3).toInt := (congrArg Int32.toInt (show σ62 2 3 = (σ 2 3) from ((congrFun (f64 2 (of_decide_eq_true rfl)) 3).trans (congrFun (f54 2 (of_decide_eq_true rfl)) 3))))
         have z97 : (σ62 55 4).toInt = (σ 55 4).toInt := (congrArg Int32.toInt (show σ62 55 4 = (σ 55 4) from ((f65 4 (of_decide_eq_true rfl)).trans (congrFun (f54 55 (of_decide_eq_true rfl)) 4))))
         have z98 : (σ62 9 0).toInt = (σ 9 0).toInt := (congrArg Int32.toInt (show σ62 9 0 = (σ 9 0) from ((congrFun (f64 9 (of_decide_eq_true rfl)) 0).trans (congrFun (f54 9 (of_decide_eq_true rfl)) 0))))
         have z99 : (σ62 55 15).toInt = (σ 55 15).toInt := (congrArg Int32.toInt (show σ62 55 15 = (σ 55 15) from ((f65 15 (of_decide_eq_true rfl)).trans (congrFun (f54 55 (of_decide_eq_true rfl)) 15))))
         have z100 : (σ62 16 0).toInt = (σ 16 0).toInt := (congrArg Int32.toInt (show σ62 16 0 = (σ 16 0) from ((congrFun (f64 16 (of_decide_eq_true rfl)) 0).trans (congrFun (f54 16 (of_decide_eq_true rfl)) 0))))
         have z101 : (σ62 55 10).toInt = (σ 55 10).toInt := (congrArg Int32.toInt (show σ62 55 10 = (σ 55 10) from ((f65 10 (of_decide_eq_true rfl)).trans (congrFun (f54 55 (of_decide_eq_true rfl)) 10))))
         have z102 : (σ62 16 1).toInt = (σ 16 1).toInt := (congrArg Int32.toInt (show σ62 16 1 = (σ 16 1) from ((congrFun (f64 16 (of_decide_eq_true rfl)) 1).trans (congrFun (f54 16 (of_decide_eq_true rfl)) 1))))
         have z103 : (σ62 55 12).toInt = (σ 55 12).toInt := (congrArg Int32.toInt (show σ62 55 12 = (σ 55 12) from ((f65 12 (of_decide_eq_true rfl)).trans (congrFun (f54 55 (of_decide_eq_true rfl)) 12))))
         have z104 : (σ62 16 2).toInt = (σ 16 2).toInt := (congrArg Int32.toInt (show σ62 16 2 = (σ 16 2) from ((congrFun (f64 16 (of_decide_eq_true rfl)) 2).trans (congrFun (f54 16 (of_decide_eq_true rfl)) 2))))
         have z105 : (σ62 55 13).toInt = (σ 55 13).toInt := (congrArg Int32.toInt (show σ62 55 13 = (σ 55 13) from ((f65 13 (of_decide_eq_true rfl)).trans (congrFun (f54 55 (of_decide_eq_true rfl)) 13))))
         have z106 : (σ62 38 0).toInt = (σ 38 0).toInt := (congrArg Int32.toInt (show σ62 38 0 = (σ 38 0) from ((congrFun (f64 38 (of_decide_eq_true rfl)) 0).trans (congrFun (f54 38 (of_decide_eq_true rfl)) 0))))
         have z107 : (σ62 55 32).toInt = (σ 55 32).toInt := (congrArg Int32.toInt (show σ62 55 32 = (σ 55 32) from ((f65 32 (of_decide_eq_true rfl)).trans (congrFun (f54 55 (of_decide_eq_true rfl)) 32))))
         have z108 : (σ62 38 1).toInt = (σ 38 1).toInt := (congrArg Int32.toInt (show σ62 38 1 = (σ 38 1) from ((congrFun (f64 38 (of_decide_eq_true rfl)) 1).trans (congrFun (f54 38 (of_decide_eq_true rfl)) 1))))
         have z109 : (σ62 55 55).toInt = (σ 55 55).toInt := (congrArg Int32.toInt (show σ62 55 55 = (σ 55 55) from ((f65 55 (of_decide_eq_true rfl)).trans (congrFun (f54 55 (of_decide_eq_true rfl)) 55))))
         have z110 : (σ62 47 0).toInt = (σ 47 0).toInt := (congrArg Int32.toInt (show σ62 47 0 = (σ 47 0) from ((congrFun (f64 47 (of_decide_eq_true rfl)) 0).trans (congrFun (f54 47 (of_decide_eq_true rfl)) 0))))
         have z111 : (σ62 55 47).toInt = (σ 55 47).toInt := (congrArg Int32.toInt (show σ62 55 47 = (σ 55 47) from ((f65 47 (of_decide_eq_true rfl)).trans (congrFun (f54 55 (of_decide_eq_true rfl)) 47))))
         have z112 : (σ62 55 30).toInt = (σ 55 30).toInt := (congrArg Int32.toInt (show σ62 55 30 = (σ 55 30) from ((f65 30 (of_decide_eq_true rfl)).trans (congrFun (f54 55 (of_decide_eq_true rfl)) 30))))
         have z113 : (σ62 55 31).toInt = (σ 55 31).toInt := (congrArg Int32.toInt (show σ62 55 31 = (σ 55 31) from ((f65 31 (of_decide_eq_true rfl)).trans (congrFun (f54 55 (of_decide_eq_true rfl)) 31))))
         exact by exact ih x68 σ62 τ _ _ ls (by have h9 := tx68; omega) ⟨I69, I70, I71, I72, I73, I74, I75, I76, I77, I78, I79, I80, I81, I82, I83, I84, I85, I86, I87, I88, I89, I66, p90, p91, (by omega), (by omega), (by omega), (by omega), (by omega), (by omega), (by omega), (by omega), (by omega), (by omega), (by omega), (by omega), (show jNumP (σ62 3) (σ62 56) (σ62 6) (σ62 57) (σ62 7) (σ62 58) (σ62 8) (σ62 59) (σ62 55 6).toInt (σ62 55 4).toInt by rw [show σ62 3 = σ 3 from ((f64 3 (of_decide_eq_true rfl)).trans (f54 3 (of_decide_eq_true rfl))), show σ62 56 = σ 56 from ((f64 56 (of_decide_eq_true rfl)).trans (f54 56 (of_decide_eq_true rfl))), show σ62 6 = σ 6 from ((f64 6 (of_decide_eq_true rfl)).trans (f54 6 (of_decide_eq_true rfl))), show σ62 57 = σ 57 from ((f64 57 (of_decide_eq_true rfl)).trans (f54 57 (of_decide_eq_true rfl))), show σ62 7 = σ 7 from ((f64 7 (of_decide_eq_true rfl)).trans (f54 7 (of_decide_eq_true rfl))), show σ62 58 = σ 58 from ((f64 58 (of_decide_eq_true rfl)).trans (f54 58 (of_decide_eq_true rfl))), show σ62 8 = σ 8 from ((f64 8 (of_decide_eq_true rfl)).trans (f54 8 (of_decide_eq_true rfl))), show σ62 59 = σ 59 from ((f64 59 (of_decide_eq_true rfl)).trans (f54 59 (of_decide_eq_true rfl))), show (σ62 55 6).toInt = (σ 55 6).toInt from by omega, show (σ62 55 4).toInt = (σ 55 4).toInt from by omega]; exact hr0), (show jOvP (σ62 56) (σ62 57) (σ62 58) (σ62 59) (σ62 55 4).toInt by rw [show σ62 56 = σ 56 from ((f64 56 (of_decide_eq_true rfl)).trans (f54 56 (of_decide_eq_true rfl))), show σ62 57 = σ 57 from ((f64 57 (of_decide_eq_true rfl)).trans (f54 57 (of_decide_eq_true rfl))), show σ62 58 = σ 58 from ((f64 58 (of_decide_eq_true rfl)).trans (f54 58 (of_decide_eq_true rfl))), show σ62 59 = σ 59 from ((f64 59 (of_decide_eq_true rfl)).trans (f54 59 (of_decide_eq_true rfl))), show (σ62 55 4).toInt = (σ 55 4).toInt from by omega]; exact hr1), (show jTp (σ62 10) (σ62 63) (σ62 55 15).toInt by rw [show σ62 10 = σ 10 from ((f64 10 (of_decide_eq_true rfl)).trans (f54 10 (of_decide_eq_true rfl))), show σ62 63 = σ 63 from ((f64 63 (of_decide_eq_true rfl)).trans (f54 63 (of_decide_eq_true rfl)))]; exact hr2.le (by omega)), (show jSo (σ62 17) (σ62 62) (σ62 16 0).toInt by rw [show σ62 17 = σ 17 from ((f64 17 (of_decide_eq_true rfl)).trans (f54 17 (of_decide_eq_true rfl))), show σ62 62 = σ 62 from ((f64 62 (of_decide_eq_true rfl)).trans (f54 62 (of_decide_eq_true rfl))), show (σ62 16 0).toInt = (σ 16 0).toInt from by omega]; exact hr3), (show jShP (σ62 51) (σ62 52) (σ62 53) (σ62 86) (σ62 87) (σ62 55 32).toInt by rw [show σ62 51 = σ 51 from ((f64 51 (of_decide_eq_true rfl)).trans (f54 51 (of_decide_eq_true rfl))), show σ62 52 = σ 52 from ((f64 52 (of_decide_eq_true rfl)).trans (f54 52 (of_decide_eq_true rfl))), show σ62 53 = σ 53 from ((f64 53 (of_decide_eq_true rfl)).trans (f54 53 (of_decide_eq_true rfl))), show σ62 86 = σ 86 from ((f64 86 (of_decide_eq_true rfl)).trans (f54 86 (of_decide_eq_true rfl))), show σ62 87 = σ 87 from ((f64 87 (of_decide_eq_true rfl)).trans (f54 87 (of_decide_eq_true rfl)))]; exact (hr4.up (by omega) (by omega))), (show jEl (σ62 51) (σ62 52) (τ 54) (τ 88) by rw [show σ62 51 = σ 51 from ((f64 51 (of_decide_eq_true rfl)).trans (f54 51 (of_decide_eq_true rfl))), show σ62 52 = σ 52 from ((f64 52 (of_decide_eq_true rfl)).trans (f54 52 (of_decide_eq_true rfl)))]; exact hr5), (show jByP (σ62 51) (σ62 52) (τ 54) by rw [show σ62 51 = σ 51 from ((f64 51 (of_decide_eq_true rfl)).trans (f54 51 (of_decide_eq_true rfl))), show σ62 52 = σ 52 from ((f64 52 (of_decide_eq_true rfl)).trans (f54 52 (of_decide_eq_true rfl)))]; exact hr6), (show jBk (σ62 48) (σ62 80) (σ62 49) (σ62 81) (σ62 55 47).toInt by rw [show σ62 48 = σ 48 from ((f64 48 (of_decide_eq_true rfl)).trans (f54 48 (of_decide_eq_true rfl))), show σ62 49 = σ 49 from ((f64 49 (of_decide_eq_true rfl)).trans (f54 49 (of_decide_eq_true rfl))), show σ62 80 = σ 80 from ((f64 80 (of_decide_eq_true rfl)).trans (f54 80 (of_decide_eq_true rfl))), show σ62 81 = σ 81 from ((f64 81 (of_decide_eq_true rfl)).trans (f54 81 (of_decide_eq_true rfl))), show (σ62 55 47).toInt = (σ 55 47).toInt from by omega]; exact hr7), (show jKd (σ62 39) (σ62 70) (σ62 55 32).toInt by rw [show σ62 39 = σ 39 from ((f64 39 (of_decide_eq_true rfl)).trans (f54 39 (of_decide_eq_true rfl))), show σ62 70 = σ 70 from ((f64 70 (of_decide_eq_true rfl)).trans (f54 70 (of_decide_eq_true rfl))), show (σ62 55 32).toInt = (σ 55 32).toInt from by omega]; exact hr8), (show jTt (σ62 42) (σ62 85) (σ62 55 55).toInt by rw [show σ62 42 = σ 42 from ((f64 42 (of_decide_eq_true rfl)).trans (f54 42 (of_decide_eq_true rfl))), show σ62 85 = σ 85 from ((f64 85 (of_decide_eq_true rfl)).trans (f54 85 (of_decide_eq_true rfl))), show (σ62 55 55).toInt = (σ 55 55).toInt from by omega]; exact hr9)⟩ hP hS (lv_sub hl [0, 1, 2, 3] rfl)
set_option maxHeartbeats 4000000 in
set_option maxRecDepth 100000 in
theorem law_case_9 {p : Program} {e : Env} {s : State} {m : MethodId} {below : List Frame} {meth : Method} {c : Code} (l : Launch) {b L : Nat} {xs : Nat → Int32} {D : va_G} {cI cL : ClassId} {ad zz : Nat → Nat} (C0 : lw_At p s m meth c b L xs) (hJ : jD ad) (hA : ∀ q, jA ad q → s.heap.size ≤ q) (hK : jK D cI cL s) (hZ : jZ zz (fun q : Nat => s.heap.size ≤ q) s s.heap) {x0 : Int32} (hx0 : 0 ≤ x0.toInt) (hxL : x0.toInt + 6 ≤ (L : Int)) (hL : L ≤ 384) {σ : Nat → Nat → Int32} {τ : Nat → Nat → Int64} {H : Heap} {locs : List Loc} (hS : va_S (fun q : Nat => s.heap.size ≤ q) s.heap H locs) {ls : Array Slot} (hAll : jAll σ τ) (hP : jH D cI cL ad σ τ H) (hl : lv_has ls 4 [(3, .int x0), (2, .ref (ad 55)), (1, .ref (ad 0)), (0, .ref b)]) (ih : ∀ (x1 : Int32) (σ : Nat → Nat → Int32) (τ : Nat → Nat → Int64) (H : Heap) (locs : List Loc) (ls : Array Slot), x1.toInt = x0.toInt + 6 → jAll σ τ → jH D cI cL ad σ τ H → va_S (fun q : Nat => s.heap.size ≤ q) s.heap H locs → lv_has ls 4 [(3, .int x1), (2, .ref (ad 55)), (1, .ref (ad 0)), (0, .ref b)] → W p l e room_1 s m #[Value.ref b] below meth c H locs 90 348600 (lw_Z below #[Value.ref b] s) (F0 m 18 ls [])) : W p l e room_1 s m #[Value.ref b] below meth c H locs 90 348600 (lw_Z below #[Value.ref b] s) (F0 m 483 ls []) := by
  obtain ⟨hx, hb, hr, hml, hown, hts0, hX, hbl, hlocks, hgv⟩ := C0
  have hts : ∀ w ∈ wsL_law, w.before #[Value.ref b] s = true := fun w h => hts0 w (wsL_law_in w h)
  have hbA : ¬ (fun q : Nat => s.heap.size ≤ q) b := Nat.not_le.mpr hbl
  have hown : s.vm.findClass RL = some m.cls := hown
  obtain ⟨hI2, hI9, hI12, hI16, hI18, hI22, hI31, hI38, hI43, hI47, hI50, hI101, hI102, hI103, hI104, hI105, hI106, hI107, hI109, hI110, hI111, hI119, hs_jKept, hs_jBook, ht0, ht1, ht2, ht3, ht4, ht5, ht6, ht7, ht8, ht9, ht10, ht11, hr0, hr1, hr2, hr3, hr4, hr5, hr6, hr7, hr8, hr9⟩ := hAll
  have hL9 : (L : Int) ≤ 384 := by omega
  obtain ⟨i1, i2, i3, i4, i5, w6⟩ : (0 ≤ (σ 2 0).toInt ∧ (σ 2 0).toInt ≤ 4) ∧ (0 ≤ (σ 2 1).toInt ∧ (σ 2 1).toInt ≤ 3) ∧ (0 ≤ (σ 2 2).toInt) ∧ (0 ≤ (σ 2 3).toInt) ∧ ((σ 2 2).toInt + (σ 2 3).toInt ≤ 40) ∧ (∀ k : Nat, k < 40 → 0 ≤ (σ 6 k).toInt ∧ (σ 6 k).toInt ≤ 67) := id hI2
  obtain ⟨i7, w8, w9⟩ : (0 ≤ (σ 9 0).toInt ∧ (σ 9 0).toInt ≤ 80) ∧ (∀ k : Nat, k < 80 → 0 ≤ (σ 10 k).toInt ∧ (σ 10 k).toInt ≤ 255) ∧ (∀ k : Nat, k < 8 → 0 ≤ (σ 11 k).toInt ∧ (σ 11 k).toInt ≤ 3) := id hI9
  obtain ⟨i10, i11, i12, w13⟩ : (1 ≤ (σ 16 0).toInt ∧ (σ 16 0).toInt ≤ 8) ∧ (1 ≤ (σ 16 1).toInt ∧ (σ 16 1).toInt ≤ 12) ∧ (0 ≤ (σ 16 2).toInt ∧ (σ 16 2).toInt ≤ 999) ∧ (∀ k : Nat, k < 8 → 0 ≤ (σ 17 k).toInt ∧ (σ 17 k).toInt ≤ 3) := id hI16
  obtain ⟨i14, i15, w16⟩ : (0 ≤ (σ 38 0).toInt ∧ (σ 38 0).toInt ≤ 20) ∧ (0 ≤ (σ 38 1).toInt ∧ (σ 38 1).toInt ≤ 1000) ∧ (∀ k : Nat, k < 20 → 0 ≤ (σ 39 k).toInt ∧ (σ 39 k).toInt ≤ 6) := id hI38
  obtain ⟨i17, w18, w19⟩ : (0 ≤ (σ 47 0).toInt ∧ (σ 47 0).toInt ≤ 12) ∧ (∀ k : Nat, k < 12 → 0 ≤ (σ 48 k).toInt ∧ (σ 48 k).toInt ≤ 3) ∧ (∀ k : Nat, k < 12 → 0 ≤ (σ 49 k).toInt ∧ (σ 49 k).toInt ≤ 1) := id hI47
  have w20 : ∀ k : Nat, k < 6 → 0 ≤ (σ 52 k).toInt ∧ (σ 52 k).toInt ≤ 60 := hI50
  obtain ⟨i21, i22, i23, w24, w25, w26, w27⟩ : (0 ≤ (σ 55 5).toInt) ∧ ((σ 55 5).toInt ≤ (σ 55 4).toInt) ∧ ((σ 55 4).toInt ≤ 40) ∧ (∀ k : Nat, k < 68 → (-200) ≤ (σ 56 k).toInt ∧ (σ 56 k).toInt ≤ 500) ∧ (∀ k : Nat, k < 40 → 0 ≤ (σ 57 k).toInt ∧ (σ 57 k).toInt ≤ 67) ∧ (∀ k : Nat, k < 40 → (-200) ≤ (σ 58 k).toInt ∧ (σ 58 k).toInt ≤ 500) ∧ (∀ k : Nat, k < 40 → (-200) ≤ (σ 59 k).toInt ∧ (σ 59 k).toInt ≤ 500) := id hI101
  obtain ⟨i28, w29, w30⟩ : (0 ≤ (σ 55 6).toInt ∧ (σ 55 6).toInt ≤ 4) ∧ (∀ k : Nat, k < 4 → 0 ≤ (σ 60 k).toInt ∧ (σ 60 k).toInt ≤ 50) ∧ (∀ k : Nat, k < 4 → 0 ≤ (σ 61 k).toInt ∧ (σ 61 k).toInt ≤ 20) := id hI102
  obtain ⟨i31, i32, i33, w34, w35⟩ : (1 ≤ (σ 55 10).toInt ∧ (σ 55 10).toInt ≤ 8) ∧ (1 ≤ (σ 55 12).toInt ∧ (σ 55 12).toInt ≤ 12) ∧ (0 ≤ (σ 55 13).toInt ∧ (σ 55 13).toInt ≤ 999) ∧ (∀ k : Nat, k < 8 → 0 ≤ (σ 62 k).toInt ∧ (σ 62 k).toInt ≤ 3) ∧ (∀ k : Nat, k < 8 → 0 ≤ (σ 67 k).toInt ∧ (σ 67 k).toInt ≤ 3) := id hI104
  obtain ⟨i36, w37⟩ : (0 ≤ (σ 55 15).toInt ∧ (σ 55 15).toInt ≤ 80) ∧ (∀ k : Nat, k < 2 → (-1) ≤ (σ 65 k).toInt ∧ (σ 65 k).toInt ≤ 80) := id hI105
  obtain ⟨i38, w39, w40, w41⟩ : (0 ≤ (σ 55 32).toInt ∧ (σ 55 32).toInt ≤ 20) ∧ (∀ k : Nat, k < 20 → 0 ≤ (σ 70 k).toInt ∧ (σ 70 k).toInt ≤ 6) ∧ (∀ k : Nat, k < 20 → 0 ≤ (σ 71 k).toInt ∧ (σ 71 k).toInt ≤ 8) ∧ (∀ k : Nat, k < 160 → 0 ≤ (σ 72 k).toInt ∧ (σ 72 k).toInt ≤ 3) := id hI106
  obtain ⟨i42, i43, w44⟩ : (0 ≤ (σ 55 47).toInt ∧ (σ 55 47).toInt ≤ 12) ∧ ((σ 55 47).toInt ≤ (σ 55 12).toInt) ∧ (∀ k : Nat, k < 12 → 0 ≤ (σ 80 k).toInt ∧ (σ 80 k).toInt ≤ 3) := id hI107
  refine lv_aload_n hx hb dL_law_483 rfl (lv_at hl 2 rfl) ?_
  refine lv_aload_n hx hb dL_law_484 rfl (lv_at hl 3 rfl) ?_
  refine lv_iload_n hx hb dL_law_485 rfl (lv_at hl 0 rfl) ?_
  refine lv_iconst (v := 1) hx hb dL_law_486 (of_decide_eq_true rfl) ?_
  have g45 := jrg (rfl : x0.toInt = x0.toInt)
  refine lv_iadd hx hb dL_law_487 ?_
  refine lv_topi (fun x46 ex46 => ?_)
  exact by
   have tx46 : x46.toInt = x0.toInt + 1 := (jadd ex46 rfl jz_1 (by omega) (by omega)).trans (by omega)
   refine va_sld hx hb hX hbl hbA hS (jin tx46 (by omega) (by omega)) dL_law_488 ?_
   have g47 := jrg (rfl : (xs x46.toNatClampNeg).toInt = (xs x46.toNatClampNeg).toInt)
   refine lv_aload_n hx hb dL_law_489 rfl (lv_at hl 3 rfl) ?_
   refine lv_iload_n hx hb dL_law_490 rfl (lv_at hl 0 rfl) ?_
   refine lv_iconst (v := 2) hx hb dL_law_491 (of_decide_eq_true rfl) ?_
   refine lv_iadd hx hb dL_law_492 ?_
   refine lv_topi (fun x48 ex48 => ?_)
   have tx48 : x48.toInt = x0.toInt + 2 := (jadd ex48 rfl jz_2 (by omega) (by omega)).trans (by omega)
   exact by
    refine va_sld hx hb hX hbl hbA hS (jin tx48 (by omega) (by omega)) dL_law_493 ?_
    have g49 := jrg (rfl : (xs x48.toNatClampNeg).toInt = (xs x48.toNatClampNeg).toInt)
    refine lv_aload_n hx hb dL_law_494 rfl (lv_at hl 3 rfl) ?_
    refine lv_iload_n hx hb dL_law_495 rfl (lv_at hl 0 rfl) ?_
    refine lv_iconst (v := 3) hx hb dL_law_496 (of_decide_eq_true rfl) ?_
    refine lv_iadd hx hb dL_law_497 ?_
    refine lv_topi (fun x50 ex50 => ?_)
    have tx50 : x50.toInt = x0.toInt + 3 := (jadd ex50 rfl jz_3 (by omega) (by omega)).trans (by omega)
    refine va_sld hx hb hX hbl hbA hS (jin tx50 (by omega) (by omega)) dL_law_498 ?_
    exact by
     have g51 := jrg (rfl : (xs x50.toNatClampNeg).toInt = (xs x50.toNatClampNeg).toInt)
     refine jcallV (As := [.int (xs x46.toNatClampNeg), .int (xs x48.toNatClampNeg), .int (xs x50.toNatClampNeg)]) (rest := []) ⟨hx, hb, hml, hown, hts⟩ hK hP hA hS hZ (c_X11_rule l D cI cL ad zz hJ σ τ (xs x46.toNatClampNeg) ((xs x46.toNatClampNeg).toInt) rfl (xs x48.toNatClampNeg) ((xs x48.toNatClampNeg).toInt) rfl (xs x50.toNatClampNeg) ((xs x50.toNatClampNeg).toInt) rfl hI38) cw_RL_53 (jc_0 cI cL ad σ τ) rfl ⟨Nat.le_of_ble_eq_true rfl, Nat.le_of_ble_eq_true rfl⟩ rfl rfl rfl hl.1 rfl (Nat.le_of_ble_eq_true rfl) dL_law_499 ⟨Nat.le_of_ble_eq_true rfl, Nat.le_of_ble_eq_true rfl⟩ (fun r53 σ52 τ52 H locs h52 hP hS => ?_)
     obtain ⟨rfl, f54, f55, I56, h52⟩ := h52
     obtain ⟨i58, i59, w60⟩ : (0 ≤ (σ52 38 0).toInt ∧ (σ52 38 0).toInt ≤ 20) ∧ (0 ≤ (σ52 38 1).toInt ∧ (σ52 38 1).toInt ≤ 1000) ∧ (∀ k : Nat, k < 20 → 0 ≤ (σ52 39 k).toInt ∧ (σ52 39 k).toInt ≤ 6) := id I56
     have z61 : (σ52 38 1).toInt = (σ 38 1).toInt := (congrArg Int32.toInt (show σ52 38 1 = (σ 38 1) from (f55 1 (of_decide_eq_true rfl))))
     rcases h52 with h62 | h63 | h64
     · obtain ⟨q68, k65, k66, k67⟩ := h62
       have q68 := q68.symm
       subst q68
       refine lv_pop hx hb dL_law_502 rfl ?_
       refine lv_aload_n hx hb dL_law_503 rfl (lv_at hl 1 rfl) ?_
       refine lv_aload_n hx hb dL_law_504 rfl (lv_at hl 3 rfl) ?_
       refine lv_iload_n hx hb dL_law_505 rfl (lv_at hl 0 rfl) ?_
       refine lv_iconst (v := 1) hx hb dL_law_506 (of_decide_eq_true rfl) ?_
       refine lv_iadd hx hb dL_law_507 ?_
       refine jtopr ex46.symm ?_
       exact by
        refine va_sld hx hb hX hbl hbA hS (jin tx46 (by omega) (by omega)) dL_law_508 ?_
        refine lv_aload_n hx hb dL_law_509 rfl (lv_at hl 3 rfl) ?_
        refine lv_iload_n hx hb dL_law_510 rfl (lv_at hl 0 rfl) ?_
        refine lv_iconst (v := 2) hx hb dL_law_511 (of_decide_eq_true rfl) ?_
        refine lv_iadd hx hb dL_law_512 ?_
        refine jtopr ex48.symm ?_
        refine va_sld hx hb hX hbl hbA hS (jin tx48 (by omega) (by omega)) dL_law_513 ?_
        refine lv_aload_n hx hb dL_law_514 rfl (lv_at hl 3 rfl) ?_
        refine lv_iload_n hx hb dL_law_515 rfl (lv_at hl 0 rfl) ?_
        exact by
         refine lv_iconst (v := 3) hx hb dL_law_516 (of_decide_eq_true rfl) ?_
         refine lv_iadd hx hb dL_law_517 ?_
         refine jtopr ex50.symm ?_
         refine va_sld hx hb hX hbl hbA hS (jin tx50 (by omega) (by omega)) dL_law_518 ?_
         have I69 : jI106 σ52 := jI106_fr (congrFun (f54 55 (of_decide_eq_true rfl)) 32) (f54 70 (of_decide_eq_true rfl)) (f54 71 (of_decide_eq_true rfl)) (f54 72 (of_decide_eq_true rfl)) hI106
         have z70 : (σ52 55 32).toInt = (σ 55 32).toInt := (congrArg Int32.toInt (show σ52 55 32 = (σ 55 32) from (congrFun (f54 55 (of_decide_eq_true rfl)) 32)))
         refine jcallV (As := [.int (xs x46.toNatClampNeg), .int (xs x48.toNatClampNeg), .int (xs x50.toNatClampNeg)]) (rest := []) ⟨hx, hb, hml, hown, hts⟩ hK hP hA hS hZ (c_X12_rule l D cI cL ad zz hJ σ52 τ (xs x46.toNatClampNeg) ((xs x46.toNatClampNeg).toInt) rfl (xs x48.toNatClampNeg) ((xs x48.toNatClampNeg).toInt) rfl (xs x50.toNatClampNeg) ((xs x50.toNatClampNeg).toInt) rfl I69) cw_RL_56 (jc_55 cI cL ad σ52 τ) rfl ⟨Nat.le_of_ble_eq_true rfl, Nat.le_of_ble_eq_true rfl⟩ rfl rfl rfl hl.1 rfl (Nat.le_of_ble_eq_true rfl) dL_law_519 ⟨Nat.le_of_ble_eq_true rfl, Nat.le_of_ble_eq_true rfl⟩ (fun r72 σ71 τ71 H locs h71 hP hS => ?_)
         obtain ⟨rfl, f73, f74, I75, h71⟩ := h71
         obtain ⟨i77, w78, w79, w80⟩ : (0 ≤ (σ71 55 32).toInt ∧ (σ71 55 32).toInt ≤ 20) ∧ (∀ k : Nat, k < 20 → 0 ≤ (σ71 70 k).toInt ∧ (σ71 70 k).toInt ≤ 6) ∧ (∀ k : Nat, k < 20 → 0 ≤ (σ71 71 k).toInt ∧ (σ71 71 k).toInt ≤ 8) ∧ (∀ k : Nat, k < 160 → 0 ≤ (σ71 72 k).toInt ∧ (σ71 72 k).toInt ≤ 3) := id I75
         exact by
          rcases h71 with h81 | h82 | h83
          · obtain ⟨q87, k84, k85, k86⟩ := h81
            have q87 := q87.symm
            subst q87
            refine lv_pop hx hb dL_law_522 rfl ?_
            refine lv_goto (tgt := 1357) hx hb dL_law_523 (of_decide_eq_true rfl) ?_
            obtain ⟨x88, ex88⟩ : ∃ y : Int32, y = x0 + 6 := ⟨_, rfl⟩
            have tx88 : x88.toInt = x0.toInt + 6 := (jadd ex88 rfl jz_6 (by omega) (by omega)).trans (by omega)
            refine lv_iinc (v := x88) (lv' := [(3, .int x88), (2, .ref (ad 55)), (1, .ref (ad 0)), (0, .ref b)]) hx hb dL_law_1357 hl (k := 0) rfl (by rw [ex88]; rfl) (of_decide_eq_true rfl) rfl (fun ls hl => ?_)
            exact by
             refine lv_goto (tgt := 18) hx hb dL_law_1360 (of_decide_eq_true rfl) ?_
             have I89 : jI2 σ71 := jI2_fr ((congrFun (f73 2 (of_decide_eq_true rfl)) 0).trans (congrFun (f54 2 (of_decide_eq_true rfl)) 0)) ((congrFun (f73 2 (of_decide_eq_true rfl)) 1).trans (congrFun (f54 2 (of_decide_eq_true rfl)) 1)) ((congrFun (f73 2 (of_decide_eq_true rfl)) 2).trans (congrFun (f54 2 (of_decide_eq_true rfl)) 2)) ((congrFun (f73 2 (of_decide_eq_true rfl)) 3).trans (congrFun (f54 2 (of_decide_eq_true rfl)) 3)) ((f73 6 (of_decide_eq_true rfl)).trans (f54 6 (of_decide_eq_true rfl))) hI2
             have I90 : jI9 σ71 := jI9_fr ((congrFun (f73 9 (of_decide_eq_true rfl)) 0).trans (congrFun (f54 9 (of_decide_eq_true rfl)) 0)) ((f73 10 (of_decide_eq_true rfl)).trans (f54 10 (of_decide_eq_true rfl))) ((f73 11 (of_decide_eq_true rfl)).trans (f54 11 (of_decide_eq_true rfl))) hI9
             have I91 : jI12 σ71 := jI12_fr ((congrFun (f73 12 (of_decide_eq_true rfl)) 0).trans (congrFun (f54 12 (of_decide_eq_true rfl)) 0)) ((f73 13 (of_decide_eq_true rfl)).trans (f54 13 (of_decide_eq_true rfl))) hI12
             have I92 : jI16 σ71 := jI16_fr ((congrFun (f73 16 (of_decide_eq_true rfl)) 0).trans (congrFun (f54 16 (of_decide_eq_true rfl)) 0)) ((congrFun (f73 16 (of_decide_eq_true rfl)) 1).trans (congrFun (f54 16 (of_decide_eq_true rfl)) 1)) ((congrFun (f73 16 (of_decide_eq_true rfl)) 2).trans (congrFun (f54 16 (of_decide_eq_true rfl)) 2)) ((f73 17 (of_decide_eq_true rfl)).trans (f54 17 (of_decide_eq_true rfl))) hI16
             have I93 : jI18 σ71 := jI18_fr ((congrFun (f73 18 (of_decide_eq_true rfl)) 0).trans (congrFun (f54 18 (of_decide_eq_true rfl)) 0)) ((f73 19 (of_decide_eq_true rfl)).trans (f54 19 (of_decide_eq_true rfl))) hI18
             have I94 : jI22 σ71 := jI22_fr ((congrFun (f73 22 (of_decide_eq_true rfl)) 0).trans (congrFun (f54 22 (of_decide_eq_true rfl)) 0)) ((f73 23 (of_decide_eq_true rfl)).trans (f54 23 (of_decide_eq_true rfl))) hI22
             have I95 : jI31 σ71 := jI31_fr ((congrFun (f73 31 (of_decide_eq_true rfl)) 8).trans (congrFun (f54 31 (of_decide_eq_true rfl)) 8)) ((f73 33 (of_decide_eq_true rfl)).trans (f54 33 (of_decide_eq_true rfl))) ((f73 36 (of_decide_eq_true rfl)).trans (f54 36 (of_decide_eq_true rfl))) hI31
             have I96 : jI38 σ71 := jI38_fr (congrFun (f73 38 (of_decide_eq_true rfl)) 0) (congrFun (f73 38 (of_decide_eq_true rfl)) 1) (f73 39 (of_decide_eq_true rfl)) I56
             have I97 : jI43 σ71 := jI43_fr ((congrFun (f73 43 (of_decide_eq_true rfl)) 8).trans (congrFun (f54 43 (of_decide_eq_true rfl)) 8)) hI43
             have I98 : jI47 σ71 := jI47_fr ((congrFun (f73 47 (of_decide_eq_true rfl)) 0).trans (congrFun (f54 47 (of_decide_eq_true rfl)) 0)) ((f73 48 (of_decide_eq_true rfl)).trans (f54 48 (of_decide_eq_true rfl))) ((f73 49 (of_decide_eq_true rfl)).trans (f54 49 (of_decide_eq_true rfl))) hI47
             have I99 : jI50 σ71 := jI50_fr ((f73 52 (of_decide_eq_true rfl)).trans (f54 52 (of_decide_eq_true rfl))) hI50
             have I100 : jI101 σ71 := jI101_fr ((f74 4 (of_decide_eq_true rfl)).trans (congrFun (f54 55 (of_decide_eq_true rfl)) 4)) ((f74 5 (of_decide_eq_true rfl)).trans (congrFun (f54 55 (of_decide_eq_true rfl)) 5)) ((f73 56 (of_decide_eq_true rfl)).trans (f54 56 (of_decide_eq_true rfl))) ((f73 57 (of_decide_eq_true rfl)).trans (f54 57 (of_decide_eq_true rfl))) ((f73 58 (of_decide_eq_true rfl)).trans (f54 58 (of_decide_eq_true rfl))) ((f73 59 (of_decide_eq_true rfl)).trans (f54 59 (of_decide_eq_true rfl))) hI101
             have I101 : jI102 σ71 := jI102_fr ((f74 6 (of_decide_eq_true rfl)).trans (congrFun (f54 55 (of_decide_eq_true rfl)) 6)) ((f73 60 (of_decide_eq_true rfl)).trans (f54 60 (of_decide_eq_true rfl))) ((f73 61 (of_decide_eq_true rfl)).trans (f54 61 (of_decide_eq_true rfl))) hI102
             have I102 : jI103 σ71 := jI103_fr ((f74 9 (of_decide_eq_true rfl)).trans (congrFun (f54 55 (of_decide_eq_true rfl)) 9)) hI103
             have I103 : jI104 σ71 := jI104_fr ((f74 10 (of_decide_eq_true rfl)).trans (congrFun (f54 55 (of_decide_eq_true rfl)) 10)) ((f74 12 (of_decide_eq_true rfl)).trans (congrFun (f54 55 (of_decide_eq_true rfl)) 12)) ((f74 13 (of_decide_eq_true rfl)).trans (congrFun (f54 55 (of_decide_eq_true rfl)) 13)) ((f73 62 (of_decide_eq_true rfl)).trans (f54 62 (of_decide_eq_true rfl))) ((f73 67 (of_decide_eq_true rfl)).trans (f54 67 (of_decide_eq_true rfl))) hI104
             have I104 : jI105 σ71 := jI105_fr ((f74 15 (of_decide_eq_true rfl)).trans (congrFun (f54 55 (of_decide_eq_true rfl)) 15)) ((f73 65 (of_decide_eq_true rfl)).trans (f54 65 (of_decide_eq_true rfl))) hI105
             have I105 : jI107 σ71 := jI107_fr ((f74 12 (of_decide_eq_true rfl)).trans (congrFun (f54 55 (of_decide_eq_true rfl)) 12)) ((f74 47 (of_decide_eq_true rfl)).trans (congrFun (f54 55 (of_decide_eq_true rfl)) 47)) ((f73 80 (of_decide_eq_true rfl)).trans (f54 80 (of_decide_eq_true rfl))) hI107
             have I106 : jI109 σ71 := jI109_fr ((f74 50 (of_decide_eq_true rfl)).trans (congrFun (f54 55 (of_decide_eq_true rfl)) 50)) hI109
             have I107 : jI110 σ71 := jI110_fr ((f73 86 (of_decide_eq_true rfl)).trans (f54 86 (of_decide_eq_true rfl))) ((f73 87 (of_decide_eq_true rfl)).trans (f54 87 (of_decide_eq_true rfl))) hI110
             have I108 : jI111 σ71 := jI111_fr ((f73 79 (of_decide_eq_true rfl)).trans (f54 79 (of_decide_eq_true rfl))) hI111
             have I109 : jI119 σ71 := jI119_fr ((f73 68 (of_decide_eq_true rfl)).trans (f54 68 (of_decide_eq_true rfl))) hI119
             have p110 : jKept σ71 := jKept.fr ((f73 75 (of_decide_eq_true rfl)).trans (f54 75 (of_decide_eq_true rfl))) ((f73 76 (of_decide_eq_true rfl)).trans (f54 76 (of_decide_eq_true rfl))) ((f73 77 (of_decide_eq_true rfl)).trans (f54 77 (of_decide_eq_true rfl))) hs_jKept
             have p111 : jBook σ71 := jBook.fr ((f74 47 (of_decide_eq_true rfl)).trans (congrFun (f54 55 (of_decide_eq_true rfl)) 47)) ((f74 10 (of_decide_eq_true rfl)).trans (congrFun (f54 55 (of_decide_eq_true rfl)) 10)) ((f73 81 (of_decide_eq_true rfl)).trans (f54 81 (of_decide_eq_true rfl))) hs_jBook
             have z112 : (σ71 2 0).toInt = (σ 2 0).toInt := (congrArg Int32.toInt (show σ71 2 0 = (σ 2 0) from ((congrFun (f73 2 (of_decide_eq_true rfl)) 0).trans (congrFun (f54 2 (of_decide_eq_true rfl)) 0))))
             have z113 : (σ71 55 6).toInt = (σ 55 6).toInt := (congrArg Int32.toInt (show σ71 55 6 = (σ 55 6) from ((f74 6 (of_decide_eq_true rfl)).trans (congrFun (f54 55 (of_decide_eq_true rfl)) 6))))
             have z114 : (σ71 2 2).toInt = (σ 2 2).toInt := (congrArg Int32.toInt (show σ71 2 2 = (σ 2 2) from ((congrFun (f73 2 (of_decide_eq_true rfl)) 2).trans (congrFun (f54 2 (of_decide_eq_true rfl)) 2))))
             have z115 : (σ71 55 5).toInt = (σ 55 5).toInt := (congrArg Int32.toInt (show σ71 55 5 = (σ 55 5) from ((f74 5 (of_decide_eq_true rfl)).trans (congrFun (f54 55 (of_decide_eq_true rfl)) 5))))
             have z116 : (σ71 2 3).toInt = (σ 2 3).toInt := (congrArg Int32.toInt (show σ71 2 3 = (σ 2 3) from ((congrFun (f73 2 (of_decide_eq_true rfl)) 3).trans (congrFun (f54 2 (of_decide_eq_true rfl)) 3))))
             have z117 : (σ71 55 4).toInt = (σ 55 4).toInt := (congrArg Int32.toInt (show σ71 55 4 = (σ 55 4) from ((f74 4 (of_decide_eq_true rfl)).trans (congrFun (f54 55 (of_decide_eq_true rfl)) 4))))
             have z118 : (σ71 9 0).toInt = (σ 9 0).toInt := (congrArg Int32.toInt (show σ71 9 0 = (σ 9 0) from ((congrFun (f73 9 (of_decide_eq_true rfl)) 0).trans (congrFun (f54 9 (of_decide_eq_true rfl)) 0))))
             have z119 : (σ71 55 15).toInt = (σ 55 15).toInt := (congrArg Int32.toInt (show σ71 55 15 = (σ 55 15) from ((f74 15 (of_decide_eq_true rfl)).trans (congrFun (f54 55 (of_decide_eq_true rfl)) 15))))
             have z120 : (σ71 16 0).toInt = (σ 16 0).toInt := (congrArg Int32.toInt (show σ71 16 0 = (σ 16 0) from ((congrFun (f73 16 (of_decide_eq_true rfl)) 0).trans (congrFun (f54 16 (of_decide_eq_true rfl)) 0))))
             have z121 : (σ71 55 10).toInt = (σ 55 10).toInt := (congrArg Int32.toInt (show σ71 55 10 = (σ 55 10) from ((f74 10 (of_decide_eq_true rfl)).trans (congrFun (f54 55 (of_decide_eq_true rfl)) 10))))
             have z122 : (σ71 16 1).toInt = (σ 16 1).toInt := (congrArg Int32.toInt (show σ71 16 1 = (σ 16 1) from ((congrFun (f73 16 (of_decide_eq_true rfl)) 1).trans (congrFun (f54 16 (of_decide_eq_true rfl)) 1))))
             have z123 : (σ71 55 12).toInt = (σ 55 12).toInt := (congrArg Int32.toInt (show σ71 55 12 = (σ 55 12) from ((f74 12 (of_decide_eq_true rfl)).trans (congrFun (f54 55 (of_decide_eq_true rfl)) 12))))
             have z124 : (σ71 16 2).toInt = (σ 16 2).toInt := (congrArg Int32.toInt (show σ71 16 2 = (σ 16 2) from ((congrFun (f73 16 (of_decide_eq_true rfl)) 2).trans (congrFun (f54 16 (of_decide_eq_true rfl)) 2))))
             have z125 : (σ71 55 13).toInt = (σ 55 13).toInt := (congrArg Int32.toInt (show σ71 55 13 = (σ 55 13) from ((f74 13 (of_decide_eq_true rfl)).trans (congrFun (f54 55 (of_decide_eq_true rfl)) 13))))
             have z126 : (σ71 38 0).toInt = (σ52 38 0).toInt := (congrArg Int32.toInt (show σ71 38 0 = (σ52 38 0) from (congrFun (f73 38 (of_decide_eq_true rfl)) 0)))
             have z127 : (σ71 38 1).toInt = (σ 38 1).toInt := (congrArg Int32.toInt (show σ71 38 1 = (σ 38 1) from ((congrFun (f73 38 (of_decide_eq_true rfl)) 1).trans (f55 1 (of_decide_eq_true rfl)))))
             have z128 : (σ71 55 55).toInt = (σ 55 55).toInt := (congrArg Int32.toInt (show σ71 55 55 = (σ 55 55) from ((f74 55 (of_decide_eq_true rfl)).trans (congrFun (f54 55 (of_decide_eq_true rfl)) 55))))
             have z129 : (σ71 47 0).toInt = (σ 47 0).toInt := (congrArg Int32.toInt (show σ71 47 0 = (σ 47 0) from ((congrFun (f73 47 (of_decide_eq_true rfl)) 0).trans (congrFun (f54 47 (of_decide_eq_true rfl)) 0))))
             have z130 : (σ71 55 47).toInt = (σ 55 47).toInt := (congrArg Int32.toInt (show σ71 55 47 = (σ 55 47) from ((f74 47 (of_decide_eq_true rfl)).trans (congrFun (f54 55 (of_decide_eq_true rfl)) 47))))
             have z131 : (σ71 55 30).toInt = (σ 55 30).toInt := (congrArg Int32.toInt (show σ71 55 30 = (σ 55 30) from ((f74 30 (of_decide_eq_true rfl)).trans (congrFun (f54 55 (of_decide_eq_true rfl)) 30))))
             have z132 : (σ71 55 31).toInt = (σ 55 31).toInt := (congrArg Int32.toInt (show σ71 55 31 = (σ 55 31) from ((f74 31 (of_decide_eq_true rfl)).trans (congrFun (f54 55 (of_decide_eq_true rfl)) 31))))
             exact by exact ih x88 σ71 τ _ _ ls (by have h9 := tx88; omega) ⟨I89, I90, I91, I92, I93, I94, I95, I96, I97, I98, I99, I100, I101, I102, I103, I104, I75, I105, I106, I107, I108, I109, p110, p111, (by omega), (by omega), (by omega), (by omega), (by omega), (by omega), (by omega), (by omega), (by omega), (by omega), (by omega), (by omega), (show jNumP (σ71 3) (σ71 56) (σ71 6) (σ71 57) (σ71 7) (σ71 58) (σ71 8) (σ71 59) (σ71 55 6).toInt (σ71 55 4).toInt by rw [show σ71 3 = σ 3 from ((f73 3 (of_decide_eq_true rfl)).trans (f54 3 (of_decide_eq_true rfl))), show σ71 56 = σ 56 from ((f73 56 (of_decide_eq_true rfl)).trans (f54 56 (of_decide_eq_true rfl))), show σ71 6 = σ 6 from ((f73 6 (of_decide_eq_true rfl)).trans (f54 6 (of_decide_eq_true rfl))), show σ71 57 = σ 57 from ((f73 57 (of_decide_eq_true rfl)).trans (f54 57 (of_decide_eq_true rfl))), show σ71 7 = σ 7 from ((f73 7 (of_decide_eq_true rfl)).trans (f54 7 (of_decide_eq_true rfl))), show σ71 58 = σ 58 from ((f73 58 (of_decide_eq_true rfl)).trans (f54 58 (of_decide_eq_true rfl))), show σ71 8 = σ 8 from ((f73 8 (of_decide_eq_true rfl)).trans (f54 8 (of_decide_eq_true rfl))), show σ71 59 = σ 59 from ((f73 59 (of_decide_eq_true rfl)).trans (f54 59 (of_decide_eq_true rfl))), show (σ71 55 6).toInt = (σ 55 6).toInt from by omega, show (σ71 55 4).toInt = (σ 55 4).toInt from by omega]; exact hr0), (show jOvP (σ71 56) (σ71 57) (σ71 58) (σ71 59) (σ71 55 4).toInt by rw [show σ71 56 = σ 56 from ((f73 56 (of_decide_eq_true rfl)).trans (f54 56 (of_decide_eq_true rfl))), show σ71 57 = σ 57 from ((f73 57 (of_decide_eq_true rfl)).trans (f54 57 (of_decide_eq_true rfl))), show σ71 58 = σ 58 from ((f73 58 (of_decide_eq_true rfl)).trans (f54 58 (of_decide_eq_true rfl))), show σ71 59 = σ 59 from ((f73 59 (of_decide_eq_true rfl)).trans (f54 59 (of_decide_eq_true rfl))), show (σ71 55 4).toInt = (σ 55 4).toInt from by omega]; exact hr1), (show jTp (σ71 10) (σ71 63) (σ71 55 15).toInt by rw [show σ71 10 = σ 10 from ((f73 10 (of_decide_eq_true rfl)).trans (f54 10 (of_decide_eq_true rfl))), show σ71 63 = σ 63 from ((f73 63 (of_decide_eq_true rfl)).trans (f54 63 (of_decide_eq_true rfl)))]; exact hr2.le (by omega)), (show jSo (σ71 17) (σ71 62) (σ71 16 0).toInt by rw [show σ71 17 = σ 17 from ((f73 17 (of_decide_eq_true rfl)).trans (f54 17 (of_decide_eq_true rfl))), show σ71 62 = σ 62 from ((f73 62 (of_decide_eq_true rfl)).trans (f54 62 (of_decide_eq_true rfl))), show (σ71 16 0).toInt = (σ 16 0).toInt from by omega]; exact hr3), (show jShP (σ71 51) (σ71 52) (σ71 53) (σ71 86) (σ71 87) (σ71 55 32).toInt by rw [show σ71 51 = σ 51 from ((f73 51 (of_decide_eq_true rfl)).trans (f54 51 (of_decide_eq_true rfl))), show σ71 52 = σ 52 from ((f73 52 (of_decide_eq_true rfl)).trans (f54 52 (of_decide_eq_true rfl))), show σ71 53 = σ 53 from ((f73 53 (of_decide_eq_true rfl)).trans (f54 53 (of_decide_eq_true rfl))), show σ71 86 = σ 86 from ((f73 86 (of_decide_eq_true rfl)).trans (f54 86 (of_decide_eq_true rfl))), show σ71 87 = σ 87 from ((f73 87 (of_decide_eq_true rfl)).trans (f54 87 (of_decide_eq_true rfl)))]; exact (hr4.up (by omega) (by omega))), (show jEl (σ71 51) (σ71 52) (τ 54) (τ 88) by rw [show σ71 51 = σ 51 from ((f73 51 (of_decide_eq_true rfl)).trans (f54 51 (of_decide_eq_true rfl))), show σ71 52 = σ 52 from ((f73 52 (of_decide_eq_true rfl)).trans (f54 52 (of_decide_eq_true rfl)))]; exact hr5), (show jByP (σ71 51) (σ71 52) (τ 54) by rw [show σ71 51 = σ 51 from ((f73 51 (of_decide_eq_true rfl)).trans (f54 51 (of_decide_eq_true rfl))), show σ71 52 = σ 52 from ((f73 52 (of_decide_eq_true rfl)).trans (f54 52 (of_decide_eq_true rfl)))]; exact hr6), (show jBk (σ71 48) (σ71 80) (σ71 49) (σ71 81) (σ71 55 47).toInt by rw [show σ71 48 = σ 48 from ((f73 48 (of_decide_eq_true rfl)).trans (f54 48 (of_decide_eq_true rfl))), show σ71 49 = σ 49 from ((f73 49 (of_decide_eq_true rfl)).trans (f54 49 (of_decide_eq_true rfl))), show σ71 80 = σ 80 from ((f73 80 (of_decide_eq_true rfl)).trans (f54 80 (of_decide_eq_true rfl))), show σ71 81 = σ 81 from ((f73 81 (of_decide_eq_true rfl)).trans (f54 81 (of_decide_eq_true rfl))), show (σ71 55 47).toInt = (σ 55 47).toInt from by omega]; exact hr7), (show jKd (σ71 39) (σ71 70) (σ71 55 32).toInt by rw [show σ71 39 = σ 39 from ((f73 39 (of_decide_eq_true rfl)).trans k67), show σ71 70 = σ 70 from (k86.trans (f54 70 (of_decide_eq_true rfl))), show (σ71 55 32).toInt = (σ 55 32).toInt from by omega]; exact hr8), (show jTt (σ71 42) (σ71 85) (σ71 55 55).toInt by rw [show σ71 42 = σ 42 from ((f73 42 (of_decide_eq_true rfl)).trans (f54 42 (of_decide_eq_true rfl))), show σ71 85 = σ 85 from ((f73 85 (of_decide_eq_true rfl)).trans (f54 85 (of_decide_eq_true rfl))), show (σ71 55 55).toInt = (σ 55 55).toInt from by omega]; exact hr9)⟩ hP hS (lv_sub hl [0, 1, 2, 3] rfl)
          · obtain ⟨q138, k134, k135, k136, k137⟩ := h82
            have q138 := q138.symm
            subst q138
            exact absurd k136 k66
          · obtain ⟨q144, k139, k140, k141, k142, k143⟩ := h83
            exact absurd k142 k66
     · obtain ⟨q149, k145, k146, k147, k148⟩ := h63
       have q149 := q149.symm
       subst q149
       refine lv_pop hx hb dL_law_502 rfl ?_
       refine lv_aload_n hx hb dL_law_503 rfl (lv_at hl 1 rfl) ?_
       refine lv_aload_n hx hb dL_law_504 rfl (lv_at hl 3 rfl) ?_
       refine lv_iload_n hx hb dL_law_505 rfl (lv_at hl 0 rfl) ?_
       refine lv_iconst (v := 1) hx hb dL_law_506 (of_decide_eq_true rfl) ?_
       refine lv_iadd hx hb dL_law_507 ?_
       refine jtopr ex46.symm ?_
       exact by
        refine va_sld hx hb hX hbl hbA hS (jin tx46 (by omega) (by omega)) dL_law_508 ?_
        refine lv_aload_n hx hb dL_law_509 rfl (lv_at hl 3 rfl) ?_
        refine lv_iload_n hx hb dL_law_510 rfl (lv_at hl 0 rfl) ?_
        refine lv_iconst (v := 2) hx hb dL_law_511 (of_decide_eq_true rfl) ?_
        refine lv_iadd hx hb dL_law_512 ?_
        refine jtopr ex48.symm ?_
        refine va_sld hx hb hX hbl hbA hS (jin tx48 (by omega) (by omega)) dL_law_513 ?_
        refine lv_aload_n hx hb dL_law_514 rfl (lv_at hl 3 rfl) ?_
        refine lv_iload_n hx hb dL_law_515 rfl (lv_at hl 0 rfl) ?_
        exact by
         refine lv_iconst (v := 3) hx hb dL_law_516 (of_decide_eq_true rfl) ?_
         refine lv_iadd hx hb dL_law_517 ?_
         refine jtopr ex50.symm ?_
         refine va_sld hx hb hX hbl hbA hS (jin tx50 (by omega) (by omega)) dL_law_518 ?_
         have I150 : jI106 σ52 := jI106_fr (congrFun (f54 55 (of_decide_eq_true rfl)) 32) (f54 70 (of_decide_eq_true rfl)) (f54 71 (of_decide_eq_true rfl)) (f54 72 (of_decide_eq_true rfl)) hI106
         have z151 : (σ52 55 32).toInt = (σ 55 32).toInt := (congrArg Int32.toInt (show σ52 55 32 = (σ 55 32) from (congrFun (f54 55 (of_decide_eq_true rfl)) 32)))
         refine jcallV (As := [.int (xs x46.toNatClampNeg), .int (xs x48.toNatClampNeg), .int (xs x50.toNatClampNeg)]) (rest := []) ⟨hx, hb, hml, hown, hts⟩ hK hP hA hS hZ (c_X12_rule l D cI cL ad zz hJ σ52 τ (xs x46.toNatClampNeg) ((xs x46.toNatClampNeg).toInt) rfl (xs x48.toNatClampNeg) ((xs x48.toNatClampNeg).toInt) rfl (xs x50.toNatClampNeg) ((xs x50.toNatClampNeg).toInt) rfl I150) cw_RL_56 (jc_55 cI cL ad σ52 τ) rfl ⟨Nat.le_of_ble_eq_true rfl, Nat.le_of_ble_eq_true rfl⟩ rfl rfl rfl hl.1 rfl (Nat.le_of_ble_eq_true rfl) dL_law_519 ⟨Nat.le_of_ble_eq_true rfl, Nat.le_of_ble_eq_true rfl⟩ (fun r153 σ152 τ152 H locs h152 hP hS => ?_)
         obtain ⟨rfl, f154, f155, I156, h152⟩ := h152
         obtain ⟨i158, w159, w160, w161⟩ : (0 ≤ (σ152 55 32).toInt ∧ (σ152 55 32).toInt ≤ 20) ∧ (∀ k : Nat, k < 20 → 0 ≤ (σ152 70 k).toInt ∧ (σ152 70 k).toInt ≤ 6) ∧ (∀ k : Nat, k < 20 → 0 ≤ (σ152 71 k).toInt ∧ (σ152 71 k).toInt ≤ 8) ∧ (∀ k : Nat, k < 160 → 0 ≤ (σ152 72 k).toInt ∧ (σ152 72 k).toInt ≤ 3) := id I156
         exact by
          rcases h152 with h162 | h163 | h164
          · obtain ⟨q168, k165, k166, k167⟩ := h162
            have q168 := q168.symm
            subst q168
            exact absurd k147 k166
          · obtain ⟨q173, k169, k170, k171, k172⟩ := h163
            have q173 := q173.symm
            subst q173
            refine lv_pop hx hb dL_law_522 rfl ?_
            refine lv_goto (tgt := 1357) hx hb dL_law_523 (of_decide_eq_true rfl) ?_
            obtain ⟨x174, ex174⟩ : ∃ y : Int32, y = x0 + 6 := ⟨_, rfl⟩
            exact by
             have tx174 : x174.toInt = x0.toInt + 6 := (jadd ex174 rfl jz_6 (by omega) (by omega)).trans (by omega)
             refine lv_iinc (v := x174) (lv' := [(3, .int x174), (2, .ref (ad 55)), (1, .ref (ad 0)), (0, .ref b)]) hx hb dL_law_1357 hl (k := 0) rfl (by rw [ex174]; rfl) (of_decide_eq_true rfl) rfl (fun ls hl => ?_)
             refine lv_goto (tgt := 18) hx hb dL_law_1360 (of_decide_eq_true rfl) ?_
             have I175 : jI2 σ152 := jI2_fr ((congrFun (f154 2 (of_decide_eq_true rfl)) 0).trans (congrFun (f54 2 (of_decide_eq_true rfl)) 0)) ((congrFun (f154 2 (of_decide_eq_true rfl)) 1).trans (congrFun (f54 2 (of_decide_eq_true rfl)) 1)) ((congrFun (f154 2 (of_decide_eq_true rfl)) 2).trans (congrFun (f54 2 (of_decide_eq_true rfl)) 2)) ((congrFun (f154 2 (of_decide_eq_true rfl)) 3).trans (congrFun (f54 2 (of_decide_eq_true rfl)) 3)) ((f154 6 (of_decide_eq_true rfl)).trans (f54 6 (of_decide_eq_true rfl))) hI2
             have I176 : jI9 σ152 := jI9_fr ((congrFun (f154 9 (of_decide_eq_true rfl)) 0).trans (congrFun (f54 9 (of_decide_eq_true rfl)) 0)) ((f154 10 (of_decide_eq_true rfl)).trans (f54 10 (of_decide_eq_true rfl))) ((f154 11 (of_decide_eq_true rfl)).trans (f54 11 (of_decide_eq_true rfl))) hI9
             have I177 : jI12 σ152 := jI12_fr ((congrFun (f154 12 (of_decide_eq_true rfl)) 0).trans (congrFun (f54 12 (of_decide_eq_true rfl)) 0)) ((f154 13 (of_decide_eq_true rfl)).trans (f54 13 (of_decide_eq_true rfl))) hI12
             have I178 : jI16 σ152 := jI16_fr ((congrFun (f154 16 (of_decide_eq_true rfl)) 0).trans (congrFun (f54 16 (of_decide_eq_true rfl)) 0)) ((congrFun (f154 16 (of_decide_eq_true rfl)) 1).trans (congrFun (f54 16 (of_decide_eq_true rfl)) 1)) ((congrFun (f154 16 (of_decide_eq_true rfl)) 2).trans (congrFun (f54 16 (of_decide_eq_true rfl)) 2)) ((f154 17 (of_decide_eq_true rfl)).trans (f54 17 (of_decide_eq_true rfl))) hI16
             have I179 : jI18 σ152 := jI18_fr ((congrFun (f154 18 (of_decide_eq_true rfl)) 0).trans (congrFun (f54 18 (of_decide_eq_true rfl)) 0)) ((f154 19 (of_decide_eq_true rfl)).trans (f54 19 (of_decide_eq_true rfl))) hI18
             have I180 : jI22 σ152 := jI22_fr ((congrFun (f154 22 (of_decide_eq_true rfl)) 0).trans (congrFun (f54 22 (of_decide_eq_true rfl)) 0)) ((f154 23 (of_decide_eq_true rfl)).trans (f54 23 (of_decide_eq_true rfl))) hI22
             exact by
              have I181 : jI31 σ152 := jI31_fr ((congrFun (f154 31 (of_decide_eq_true rfl)) 8).trans (congrFun (f54 31 (of_decide_eq_true rfl)) 8)) ((f154 33 (of_decide_eq_true rfl)).trans (f54 33 (of_decide_eq_true rfl))) ((f154 36 (of_decide_eq_true rfl)).trans (f54 36 (of_decide_eq_true rfl))) hI31
              have I182 : jI38 σ152 := jI38_fr (congrFun (f154 38 (of_decide_eq_true rfl)) 0) (congrFun (f154 38 (of_decide_eq_true rfl)) 1) (f154 39 (of_decide_eq_true rfl)) I56
              have I183 : jI43 σ152 := jI43_fr ((congrFun (f154 43 (of_decide_eq_true rfl)) 8).trans (congrFun (f54 43 (of_decide_eq_true rfl)) 8)) hI43
              have I184 : jI47 σ152 := jI47_fr ((congrFun (f154 47 (of_decide_eq_true rfl)) 0).trans (congrFun (f54 47 (of_decide_eq_true rfl)) 0)) ((f154 48 (of_decide_eq_true rfl)).trans (f54 48 (of_decide_eq_true rfl))) ((f154 49 (of_decide_eq_true rfl)).trans (f54 49 (of_decide_eq_true rfl))) hI47
              have I185 : jI50 σ152 := jI50_fr ((f154 52 (of_decide_eq_true rfl)).trans (f54 52 (of_decide_eq_true rfl))) hI50
              have I186 : jI101 σ152 := jI101_fr ((f155 4 (of_decide_eq_true rfl)).trans (congrFun (f54 55 (of_decide_eq_true rfl)) 4)) ((f155 5 (of_decide_eq_true rfl)).trans (congrFun (f54 55 (of_decide_eq_true rfl)) 5)) ((f154 56 (of_decide_eq_true rfl)).trans (f54 56 (of_decide_eq_true rfl))) ((f154 57 (of_decide_eq_true rfl)).trans (f54 57 (of_decide_eq_true rfl))) ((f154 58 (of_decide_eq_true rfl)).trans (f54 58 (of_decide_eq_true rfl))) ((f154 59 (of_decide_eq_true rfl)).trans (f54 59 (of_decide_eq_true rfl))) hI101
              have I187 : jI102 σ152 := jI102_fr ((f155 6 (of_decide_eq_true rfl)).trans (congrFun (f54 55 (of_decide_eq_true rfl)) 6)) ((f154 60 (of_decide_eq_true rfl)).trans (f54 60 (of_decide_eq_true rfl))) ((f154 61 (of_decide_eq_true rfl)).trans (f54 61 (of_decide_eq_true rfl))) hI102
              have I188 : jI103 σ152 := jI103_fr ((f155 9 (of_decide_eq_true rfl)).trans (congrFun (f54 55 (of_decide_eq_true rfl)) 9)) hI103
              have I189 : jI104 σ152 := jI104_fr ((f155 10 (of_decide_eq_true rfl)).trans (congrFun (f54 55 (of_decide_eq_true rfl)) 10)) ((f155 12 (of_decide_eq_true rfl)).trans (congrFun (f54 55 (of_decide_eq_true rfl)) 12)) ((f155 13 (of_decide_eq_true rfl)).trans (congrFun (f54 55 (of_decide_eq_true rfl)) 13)) ((f154 62 (of_decide_eq_true rfl)).trans (f54 62 (of_decide_eq_true rfl))) ((f154 67 (of_decide_eq_true rfl)).trans (f54 67 (of_decide_eq_true rfl))) hI104
              have I190 : jI105 σ152 := jI105_fr ((f155 15 (of_decide_eq_true rfl)).trans (congrFun (f54 55 (of_decide_eq_true rfl)) 15)) ((f154 65 (of_decide_eq_true rfl)).trans (f54 65 (of_decide_eq_true rfl))) hI105
              have I191 : jI107 σ152 := jI107_fr ((f155 12 (of_decide_eq_true rfl)).trans (congrFun (f54 55 (of_decide_eq_true rfl)) 12)) ((f155 47 (of_decide_eq_true rfl)).trans (congrFun (f54 55 (of_decide_eq_true rfl)) 47)) ((f154 80 (of_decide_eq_true rfl)).trans (f54 80 (of_decide_eq_true rfl))) hI107
              have I192 : jI109 σ152 := jI109_fr ((f155 50 (of_decide_eq_true rfl)).trans (congrFun (f54 55 (of_decide_eq_true rfl)) 50)) hI109
              have I193 : jI110 σ152 := jI110_fr ((f154 86 (of_decide_eq_true rfl)).trans (f54 86 (of_decide_eq_true rfl))) ((f154 87 (of_decide_eq_true rfl)).trans (f54 87 (of_decide_eq_true rfl))) hI110
              have I194 : jI111 σ152 := jI111_fr ((f154 79 (of_decide_eq_true rfl)).trans (f54 79 (of_decide_eq_true rfl))) hI111
              have I195 : jI119 σ152 := jI119_fr ((f154 68 (of_decide_eq_true rfl)).trans (f54 68 (of_decide_eq_true rfl))) hI119
              have p196 : jKept σ152 := jKept.fr ((f154 75 (of_decide_eq_true rfl)).trans (f54 75 (of_decide_eq_true rfl))) ((f154 76 (of_decide_eq_true rfl)).trans (f54 76 (of_decide_eq_true rfl))) ((f154 77 (of_decide_eq_true rfl)).trans (f54 77 (of_decide_eq_true rfl))) hs_jKept
              have p197 : jBook σ152 := jBook.fr ((f155 47 (of_decide_eq_true rfl)).trans (congrFun (f54 55 (of_decide_eq_true rfl)) 47)) ((f155 10 (of_decide_eq_true rfl)).trans (congrFun (f54 55 (of_decide_eq_true rfl)) 10)) ((f154 81 (of_decide_eq_true rfl)).trans (f54 81 (of_decide_eq_true rfl))) hs_jBook
              have z198 : (σ152 2 0).toInt = (σ 2 0).toInt := (congrArg Int32.toInt (show σ152 2 0 = (σ 2 0) from ((congrFun (f154 2 (of_decide_eq_true rfl)) 0).trans (congrFun (f54 2 (of_decide_eq_true rfl)) 0))))
              have z199 : (σ152 55 6).toInt = (σ 55 6).toInt := (congrArg Int32.toInt (show σ152 55 6 = (σ 55 6) from ((f155 6 (of_decide_eq_true rfl)).trans (congrFun (f54 55 (of_decide_eq_true rfl)) 6))))
              have z200 : (σ152 2 2).toInt = (σ 2 2).toInt := (congrArg Int32.toInt (show σ152 2 2 = (σ 2 2) from ((congrFun (f154 2 (of_decide_eq_true rfl)) 2).trans (congrFun (f54 2 (of_decide_eq_true rfl)) 2))))
              have z201 : (σ152 55 5).toInt = (σ 55 5).toInt := (congrArg Int32.toInt (show σ152 55 5 = (σ 55 5) from ((f155 5 (of_decide_eq_true rfl)).trans (congrFun (f54 55 (of_decide_eq_true rfl)) 5))))
              have z202 : (σ152 2 3).toInt = (σ 2 3).toInt := (congrArg Int32.toInt (show σ152 2 3 = (σ 2 3) from ((congrFun (f154 2 (of_decide_eq_true rfl)) 3).trans (congrFun (f54 2 (of_decide_eq_true rfl)) 3))))
              have z203 : (σ152 55 4).toInt = (σ 55 4).toInt := (congrArg Int32.toInt (show σ152 55 4 = (σ 55 4) from ((f155 4 (of_decide_eq_true rfl)).trans (congrFun (f54 55 (of_decide_eq_true rfl)) 4))))
              have z204 : (σ152 9 0).toInt = (σ 9 0).toInt := (congrArg Int32.toInt (show σ152 9 0 = (σ 9 0) from ((congrFun (f154 9 (of_decide_eq_true rfl)) 0).trans (congrFun (f54 9 (of_decide_eq_true rfl)) 0))))
              have z205 : (σ152 55 15).toInt = (σ 55 15).toInt := (congrArg Int32.toInt (show σ152 55 15 = (σ 55 15) from ((f155 15 (of_decide_eq_true rfl)).trans (congrFun (f54 55 (of_decide_eq_true rfl)) 15))))
              have z206 : (σ152 16 0).toInt = (σ 16 0).toInt := (congrArg Int32.toInt (show σ152 16 0 = (σ 16 0) from ((congrFun (f154 16 (of_decide_eq_true rfl)) 0).trans (congrFun (f54 16 (of_decide_eq_true rfl)) 0))))
              have z207 : (σ152 55 10).toInt = (σ 55 10).toInt := (congrArg Int32.toInt (show σ152 55 10 = (σ 55 10) from ((f155 10 (of_decide_eq_true rfl)).trans (congrFun (f54 55 (of_decide_eq_true rfl)) 10))))
              have z208 : (σ152 16 1).toInt = (σ 16 1).toInt := (congrArg Int32.toInt (show σ152 16 1 = (σ 16 1) from ((congrFun (f154 16 (of_decide_eq_true rfl)) 1).trans (congrFun (f54 16 (of_decide_eq_true rfl)) 1))))
              have z209 : (σ152 55 12).toInt = (σ 55 12).toInt := (congrArg Int32.toInt (show σ152 55 12 = (σ 55 12) from ((f155 12 (of_decide_eq_true rfl)).trans (congrFun (f54 55 (of_decide_eq_true rfl)) 12))))
              have z210 : (σ152 16 2).toInt = (σ 16 2).toInt := (congrArg Int32.toInt (show σ152 16 2 = (σ 16 2) from ((congrFun (f154 16 (of_decide_eq_true rfl)) 2).trans (congrFun (f54 16 (of_decide_eq_true rfl)) 2))))
              have z211 : (σ152 55 13).toInt = (σ 55 13).toInt := (congrArg Int32.toInt (show σ152 55 13 = (σ 55 13) from ((f155 13 (of_decide_eq_true rfl)).trans (congrFun (f54 55 (of_decide_eq_true rfl)) 13))))
              have z212 : (σ152 38 0).toInt = (σ52 38 0).toInt := (congrArg Int32.toInt (show σ152 38 0 = (σ52 38 0) from (congrFun (f154 38 (of_decide_eq_true rfl)) 0)))
              have z213 : (σ152 38 1).toInt = (σ 38 1).toInt := (congrArg Int32.toInt (show σ152 38 1 = (σ 38 1) from ((congrFun (f154 38 (of_decide_eq_true rfl)) 1).trans (f55 1 (of_decide_eq_true rfl)))))
              have z214 : (σ152 55 55).toInt = (σ 55 55).toInt := (congrArg Int32.toInt (show σ152 55 55 = (σ 55 55) from ((f155 55 (of_decide_eq_true rfl)).trans (congrFun (f54 55 (of_decide_eq_true rfl)) 55))))
              have z215 : (σ152 47 0).toInt = (σ 47 0).toInt := (congrArg Int32.toInt (show σ152 47 0 = (σ 47 0) from ((congrFun (f154 47 (of_decide_eq_true rfl)) 0).trans (congrFun (f54 47 (of_decide_eq_true rfl)) 0))))
              have z216 : (σ152 55 47).toInt = (σ 55 47).toInt := (congrArg Int32.toInt (show σ152 55 47 = (σ 55 47) from ((f155 47 (of_decide_eq_true rfl)).trans (congrFun (f54 55 (of_decide_eq_true rfl)) 47))))
              have z217 : (σ152 55 30).toInt = (σ 55 30).toInt := (congrArg Int32.toInt (show σ152 55 30 = (σ 55 30) from ((f155 30 (of_decide_eq_true rfl)).trans (congrFun (f54 55 (of_decide_eq_true rfl)) 30))))
              have z218 : (σ152 55 31).toInt = (σ 55 31).toInt := (congrArg Int32.toInt (show σ152 55 31 = (σ 55 31) from ((f155 31 (of_decide_eq_true rfl)).trans (congrFun (f54 55 (of_decide_eq_true rfl)) 31))))
              exact by exact ih x174 σ152 τ _ _ ls (by have h9 := tx174; omega) ⟨I175, I176, I177, I178, I179, I180, I181, I182, I183, I184, I185, I186, I187, I188, I189, I190, I156, I191, I192, I193, I194, I195, p196, p197, (by omega), (by omega), (by omega), (by omega), (by omega), (by omega), (by omega), (by omega), (by omega), (by omega), (by omega), (by omega), (show jNumP (σ152 3) (σ152 56) (σ152 6) (σ152 57) (σ152 7) (σ152 58) (σ152 8) (σ152 59) (σ152 55 6).toInt (σ152 55 4).toInt by rw [show σ152 3 = σ 3 from ((f154 3 (of_decide_eq_true rfl)).trans (f54 3 (of_decide_eq_true rfl))), show σ152 56 = σ 56 from ((f154 56 (of_decide_eq_true rfl)).trans (f54 56 (of_decide_eq_true rfl))), show σ152 6 = σ 6 from ((f154 6 (of_decide_eq_true rfl)).trans (f54 6 (of_decide_eq_true rfl))), show σ152 57 = σ 57 from ((f154 57 (of_decide_eq_true rfl)).trans (f54 57 (of_decide_eq_true rfl))), show σ152 7 = σ 7 from ((f154 7 (of_decide_eq_true rfl)).trans (f54 7 (of_decide_eq_true rfl))), show σ152 58 = σ 58 from ((f154 58 (of_decide_eq_true rfl)).trans (f54 58 (of_decide_eq_true rfl))), show σ152 8 = σ 8 from ((f154 8 (of_decide_eq_true rfl)).trans (f54 8 (of_decide_eq_true rfl))), show σ152 59 = σ 59 from ((f154 59 (of_decide_eq_true rfl)).trans (f54 59 (of_decide_eq_true rfl))), show (σ152 55 6).toInt = (σ 55 6).toInt from by omega, show (σ152 55 4).toInt = (σ 55 4).toInt from by omega]; exact hr0), (show jOvP (σ152 56) (σ152 57) (σ152 58) (σ152 59) (σ152 55 4).toInt by rw [show σ152 56 = σ 56 from ((f154 56 (of_decide_eq_true rfl)).trans (f54 56 (of_decide_eq_true rfl))), show σ152 57 = σ 57 from ((f154 57 (of_decide_eq_true rfl)).trans (f54 57 (of_decide_eq_true rfl))), show σ152 58 = σ 58 from ((f154 58 (of_decide_eq_true rfl)).trans (f54 58 (of_decide_eq_true rfl))), show σ152 59 = σ 59 from ((f154 59 (of_decide_eq_true rfl)).trans (f54 59 (of_decide_eq_true rfl))), show (σ152 55 4).toInt = (σ 55 4).toInt from by omega]; exact hr1), (show jTp (σ152 10) (σ152 63) (σ152 55 15).toInt by rw [show σ152 10 = σ 10 from ((f154 10 (of_decide_eq_true rfl)).trans (f54 10 (of_decide_eq_true rfl))), show σ152 63 = σ 63 from ((f154 63 (of_decide_eq_true rfl)).trans (f54 63 (of_decide_eq_true rfl)))]; exact hr2.le (by omega)), (show jSo (σ152 17) (σ152 62) (σ152 16 0).toInt by rw [show σ152 17 = σ 17 from ((f154 17 (of_decide_eq_true rfl)).trans (f54 17 (of_decide_eq_true rfl))), show σ152 62 = σ 62 from ((f154 62 (of_decide_eq_true rfl)).trans (f54 62 (of_decide_eq_true rfl))), show (σ152 16 0).toInt = (σ 16 0).toInt from by omega]; exact hr3), (show jShP (σ152 51) (σ152 52) (σ152 53) (σ152 86) (σ152 87) (σ152 55 32).toInt by rw [show σ152 51 = σ 51 from ((f154 51 (of_decide_eq_true rfl)).trans (f54 51 (of_decide_eq_true rfl))), show σ152 52 = σ 52 from ((f154 52 (of_decide_eq_true rfl)).trans (f54 52 (of_decide_eq_true rfl))), show σ152 53 = σ 53 from ((f154 53 (of_decide_eq_true rfl)).trans (f54 53 (of_decide_eq_true rfl))), show σ152 86 = σ 86 from ((f154 86 (of_decide_eq_true rfl)).trans (f54 86 (of_decide_eq_true rfl))), show σ152 87 = σ 87 from ((f154 87 (of_decide_eq_true rfl)).trans (f54 87 (of_decide_eq_true rfl)))]; exact (hr4.up (by omega) (by omega))), (show jEl (σ152 51) (σ152 52) (τ 54) (τ 88) by rw [show σ152 51 = σ 51 from ((f154 51 (of_decide_eq_true rfl)).trans (f54 51 (of_decide_eq_true rfl))), show σ152 52 = σ 52 from ((f154 52 (of_decide_eq_true rfl)).trans (f54 52 (of_decide_eq_true rfl)))]; exact hr5), (show jByP (σ152 51) (σ152 52) (τ 54) by rw [show σ152 51 = σ 51 from ((f154 51 (of_decide_eq_true rfl)).trans (f54 51 (of_decide_eq_true rfl))), show σ152 52 = σ 52 from ((f154 52 (of_decide_eq_true rfl)).trans (f54 52 (of_decide_eq_true rfl)))]; exact hr6), (show jBk (σ152 48) (σ152 80) (σ152 49) (σ152 81) (σ152 55 47).toInt by rw [show σ152 48 = σ 48 from ((f154 48 (of_decide_eq_true rfl)).trans (f54 48 (of_decide_eq_true rfl))), show σ152 49 = σ 49 from ((f154 49 (of_decide_eq_true rfl)).trans (f54 49 (of_decide_eq_true rfl))), show σ152 80 = σ 80 from ((f154 80 (of_decide_eq_true rfl)).trans (f54 80 (of_decide_eq_true rfl))), show σ152 81 = σ 81 from ((f154 81 (of_decide_eq_true rfl)).trans (f54 81 (of_decide_eq_true rfl))), show (σ152 55 47).toInt = (σ 55 47).toInt from by omega]; exact hr7), (show jKd (σ152 39) (σ152 70) (σ152 55 32).toInt by rw [show σ152 39 = σ 39 from ((f154 39 (of_decide_eq_true rfl)).trans k148), show σ152 70 = σ 70 from (k172.trans (f54 70 (of_decide_eq_true rfl))), show (σ152 55 32).toInt = (σ 55 32).toInt from by omega]; exact hr8), (show jTt (σ152 42) (σ152 85) (σ152 55 55).toInt by rw [show σ152 42 = σ 42 from ((f154 42 (of_decide_eq_true rfl)).trans (f54 42 (of_decide_eq_true rfl))), show σ152 85 = σ 85 from ((f154 85 (of_decide_eq_true rfl)).trans (f54 85 (of_decide_eq_true rfl))), show (σ152 55 55).toInt = (σ 55 55).toInt from by omega]; exact hr9)⟩ hP hS (lv_sub hl [0, 1, 2, 3] rfl)
          · obtain ⟨q225, k220, k221, k222, k223, k224⟩ := h164
            exact absurd (by omega : False) id
     · obtain ⟨q231, k226, k227, k228, k229, k230⟩ := h64
       refine lv_pop hx hb dL_law_502 rfl ?_
       refine lv_aload_n hx hb dL_law_503 rfl (lv_at hl 1 rfl) ?_
       refine lv_aload_n hx hb dL_law_504 rfl (lv_at hl 3 rfl) ?_
       refine lv_iload_n hx hb dL_law_505 rfl (lv_at hl 0 rfl) ?_
       refine lv_iconst (v := 1) hx hb dL_law_506 (of_decide_eq_true rfl) ?_
       refine lv_iadd hx hb dL_law_507 ?_
       refine jtopr ex46.symm ?_
       exact by
        refine va_sld hx hb hX hbl hbA hS (jin tx46 (by omega) (by omega)) dL_law_508 ?_
        refine lv_aload_n hx hb dL_law_509 rfl (lv_at hl 3 rfl) ?_
        refine lv_iload_n hx hb dL_law_510 rfl (lv_at hl 0 rfl) ?_
        refine lv_iconst (v := 2) hx hb dL_law_511 (of_decide_eq_true rfl) ?_
        refine lv_iadd hx hb dL_law_512 ?_
        refine jtopr ex48.symm ?_
        refine va_sld hx hb hX hbl hbA hS (jin tx48 (by omega) (by omega)) dL_law_513 ?_
        refine lv_aload_n hx hb dL_law_514 rfl (lv_at hl 3 rfl) ?_
        refine lv_iload_n hx hb dL_law_515 rfl (lv_at hl 0 rfl) ?_
        exact by
         refine lv_iconst (v := 3) hx hb dL_law_516 (of_decide_eq_true rfl) ?_
         refine lv_iadd hx hb dL_law_517 ?_
         refine jtopr ex50.symm ?_
         refine va_sld hx hb hX hbl hbA hS (jin tx50 (by omega) (by omega)) dL_law_518 ?_
         have I232 : jI106 σ52 := jI106_fr (congrFun (f54 55 (of_decide_eq_true rfl)) 32) (f54 70 (of_decide_eq_true rfl)) (f54 71 (of_decide_eq_true rfl)) (f54 72 (of_decide_eq_true rfl)) hI106
         have z233 : (σ52 55 32).toInt = (σ 55 32).toInt := (congrArg Int32.toInt (show σ52 55 32 = (σ 55 32) from (congrFun (f54 55 (of_decide_eq_true rfl)) 32)))
         refine jcallV (As := [.int (xs x46.toNatClampNeg), .int (xs x48.toNatClampNeg), .int (xs x50.toNatClampNeg)]) (rest := []) ⟨hx, hb, hml, hown, hts⟩ hK hP hA hS hZ (c_X12_rule l D cI cL ad zz hJ σ52 τ (xs x46.toNatClampNeg) ((xs x46.toNatClampNeg).toInt) rfl (xs x48.toNatClampNeg) ((xs x48.toNatClampNeg).toInt) rfl (xs x50.toNatClampNeg) ((xs x50.toNatClampNeg).toInt) rfl I232) cw_RL_56 (jc_55 cI cL ad σ52 τ) rfl ⟨Nat.le_of_ble_eq_true rfl, Nat.le_of_ble_eq_true rfl⟩ rfl rfl rfl hl.1 rfl (Nat.le_of_ble_eq_true rfl) dL_law_519 ⟨Nat.le_of_ble_eq_true rfl, Nat.le_of_ble_eq_true rfl⟩ (fun r235 σ234 τ234 H locs h234 hP hS => ?_)
         obtain ⟨rfl, f236, f237, I238, h234⟩ := h234
         obtain ⟨i240, w241, w242, w243⟩ : (0 ≤ (σ234 55 32).toInt ∧ (σ234 55 32).toInt ≤ 20) ∧ (∀ k : Nat, k < 20 → 0 ≤ (σ234 70 k).toInt ∧ (σ234 70 k).toInt ≤ 6) ∧ (∀ k : Nat, k < 20 → 0 ≤ (σ234 71 k).toInt ∧ (σ234 71 k).toInt ≤ 8) ∧ (∀ k : Nat, k < 160 → 0 ≤ (σ234 72 k).toInt ∧ (σ234 72 k).toInt ≤ 3) := id I238
         exact by
          rcases h234 with h244 | h245 | h246
          · obtain ⟨q250, k247, k248, k249⟩ := h244
            have q250 := q250.symm
            subst q250
            exact absurd k229 k248
          · obtain ⟨q255, k251, k252, k253, k254⟩ := h245
            exact absurd (by omega : False) id
          · obtain ⟨q261, k256, k257, k258, k259, k260⟩ := h246
            refine lv_pop hx hb dL_law_522 rfl ?_
            refine lv_goto (tgt := 1357) hx hb dL_law_523 (of_decide_eq_true rfl) ?_
            obtain ⟨x262, ex262⟩ : ∃ y : Int32, y = x0 + 6 := ⟨_, rfl⟩
            exact by
             have tx262 : x262.toInt = x0.toInt + 6 := (jadd ex262 rfl jz_6 (by omega) (by omega)).trans (by omega)
             refine lv_iinc (v := x262) (lv' := [(3, .int x262), (2, .ref (ad 55)), (1, .ref (ad 0)), (0, .ref b)]) hx hb dL_law_1357 hl (k := 0) rfl (by rw [ex262]; rfl) (of_decide_eq_true rfl) rfl (fun ls hl => ?_)
             refine lv_goto (tgt := 18) hx hb dL_law_1360 (of_decide_eq_true rfl) ?_
             have I263 : jI2 σ234 := jI2_fr ((congrFun (f236 2 (of_decide_eq_true rfl)) 0).trans (congrFun (f54 2 (of_decide_eq_true rfl)) 0)) ((congrFun (f236 2 (of_decide_eq_true rfl)) 1).trans (congrFun (f54 2 (of_decide_eq_true rfl)) 1)) ((congrFun (f236 2 (of_decide_eq_true rfl)) 2).trans (congrFun (f54 2 (of_decide_eq_true rfl)) 2)) ((congrFun (f236 2 (of_decide_eq_true rfl)) 3).trans (congrFun (f54 2 (of_decide_eq_true rfl)) 3)) ((f236 6 (of_decide_eq_true rfl)).trans (f54 6 (of_decide_eq_true rfl))) hI2
             have I264 : jI9 σ234 := jI9_fr ((congrFun (f236 9 (of_decide_eq_true rfl)) 0).trans (congrFun (f54 9 (of_decide_eq_true rfl)) 0)) ((f236 10 (of_decide_eq_true rfl)).trans (f54 10 (of_decide_eq_true rfl))) ((f236 11 (of_decide_eq_true rfl)).trans (f54 11 (of_decide_eq_true rfl))) hI9
             have I265 : jI12 σ234 := jI12_fr ((congrFun (f236 12 (of_decide_eq_true rfl)) 0).trans (congrFun (f54 12 (of_decide_eq_true rfl)) 0)) ((f236 13 (of_decide_eq_true rfl)).trans (f54 13 (of_decide_eq_true rfl))) hI12
             have I266 : jI16 σ234 := jI16_fr ((congrFun (f236 16 (of_decide_eq_true rfl)) 0).trans (congrFun (f54 16 (of_decide_eq_true rfl)) 0)) ((congrFun (f236 16 (of_decide_eq_true rfl)) 1).trans (congrFun (f54 16 (of_decide_eq_true rfl)) 1)) ((congrFun (f236 16 (of_decide_eq_true rfl)) 2).trans (congrFun (f54 16 (of_decide_eq_true rfl)) 2)) ((f236 17 (of_decide_eq_true rfl)).trans (f54 17 (of_decide_eq_true rfl))) hI16
             have I267 : jI18 σ234 := jI18_fr ((congrFun (f236 18 (of_decide_eq_true rfl)) 0).trans (congrFun (f54 18 (of_decide_eq_true rfl)) 0)) ((f236 19 (of_decide_eq_true rfl)).trans (f54 19 (of_decide_eq_true rfl))) hI18
             have I268 : jI22 σ234 := jI22_fr ((congrFun (f236 22 (of_decide_eq_true rfl)) 0).trans (congrFun (f54 22 (of_decide_eq_true rfl)) 0)) ((f236 23 (of_decide_eq_true rfl)).trans (f54 23 (of_decide_eq_true rfl))) hI22
             exact by
              have I269 : jI31 σ234 := jI31_fr ((congrFun (f236 31 (of_decide_eq_true rfl)) 8).trans (congrFun (f54 31 (of_decide_eq_true rfl)) 8)) ((f236 33 (of_decide_eq_true rfl)).trans (f54 33 (of_decide_eq_true rfl))) ((f236 36 (of_decide_eq_true rfl)).trans (f54 36 (of_decide_eq_true rfl))) hI31
              have I270 : jI38 σ234 := jI38_fr (congrFun (f236 38 (of_decide_eq_true rfl)) 0) (congrFun (f236 38 (of_decide_eq_true rfl)) 1) (f236 39 (of_decide_eq_true rfl)) I56
              have I271 : jI43 σ234 := jI43_fr ((congrFun (f236 43 (of_decide_eq_true rfl)) 8).trans (congrFun (f54 43 (of_decide_eq_true rfl)) 8)) hI43
              have I272 : jI47 σ234 := jI47_fr ((congrFun (f236 47 (of_decide_eq_true rfl)) 0).trans (congrFun (f54 47 (of_decide_eq_true rfl)) 0)) ((f236 48 (of_decide_eq_true rfl)).trans (f54 48 (of_decide_eq_true rfl))) ((f236 49 (of_decide_eq_true rfl)).trans (f54 49 (of_decide_eq_true rfl))) hI47
              have I273 : jI50 σ234 := jI50_fr ((f236 52 (of_decide_eq_true rfl)).trans (f54 52 (of_decide_eq_true rfl))) hI50
              have I274 : jI101 σ234 := jI101_fr ((f237 4 (of_decide_eq_true rfl)).trans (congrFun (f54 55 (of_decide_eq_true rfl)) 4)) ((f237 5 (of_decide_eq_true rfl)).trans (congrFun (f54 55 (of_decide_eq_true rfl)) 5)) ((f236 56 (of_decide_eq_true rfl)).trans (f54 56 (of_decide_eq_true rfl))) ((f236 57 (of_decide_eq_true rfl)).trans (f54 57 (of_decide_eq_true rfl))) ((f236 58 (of_decide_eq_true rfl)).trans (f54 58 (of_decide_eq_true rfl))) ((f236 59 (of_decide_eq_true rfl)).trans (f54 59 (of_decide_eq_true rfl))) hI101
              have I275 : jI102 σ234 := jI102_fr ((f237 6 (of_decide_eq_true rfl)).trans (congrFun (f54 55 (of_decide_eq_true rfl)) 6)) ((f236 60 (of_decide_eq_true rfl)).trans (f54 60 (of_decide_eq_true rfl))) ((f236 61 (of_decide_eq_true rfl)).trans (f54 61 (of_decide_eq_true rfl))) hI102
              have I276 : jI103 σ234 := jI103_fr ((f237 9 (of_decide_eq_true rfl)).trans (congrFun (f54 55 (of_decide_eq_true rfl)) 9)) hI103
              have I277 : jI104 σ234 := jI104_fr ((f237 10 (of_decide_eq_true rfl)).trans (congrFun (f54 55 (of_decide_eq_true rfl)) 10)) ((f237 12 (of_decide_eq_true rfl)).trans (congrFun (f54 55 (of_decide_eq_true rfl)) 12)) ((f237 13 (of_decide_eq_true rfl)).trans (congrFun (f54 55 (of_decide_eq_true rfl)) 13)) ((f236 62 (of_decide_eq_true rfl)).trans (f54 62 (of_decide_eq_true rfl))) ((f236 67 (of_decide_eq_true rfl)).trans (f54 67 (of_decide_eq_true rfl))) hI104
              have I278 : jI105 σ234 := jI105_fr ((f237 15 (of_decide_eq_true rfl)).trans (congrFun (f54 55 (of_decide_eq_true rfl)) 15)) ((f236 65 (of_decide_eq_true rfl)).trans (f54 65 (of_decide_eq_true rfl))) hI105
              have I279 : jI107 σ234 := jI107_fr ((f237 12 (of_decide_eq_true rfl)).trans (congrFun (f54 55 (of_decide_eq_true rfl)) 12)) ((f237 47 (of_decide_eq_true rfl)).trans (congrFun (f54 55 (of_decide_eq_true rfl)) 47)) ((f236 80 (of_decide_eq_true rfl)).trans (f54 80 (of_decide_eq_true rfl))) hI107
              have I280 : jI109 σ234 := jI109_fr ((f237 50 (of_decide_eq_true rfl)).trans (congrFun (f54 55 (of_decide_eq_true rfl)) 50)) hI109
              have I281 : jI110 σ234 := jI110_fr ((f236 86 (of_decide_eq_true rfl)).trans (f54 86 (of_decide_eq_true rfl))) ((f236 87 (of_decide_eq_true rfl)).trans (f54 87 (of_decide_eq_true rfl))) hI110
              have I282 : jI111 σ234 := jI111_fr ((f236 79 (of_decide_eq_true rfl)).trans (f54 79 (of_decide_eq_true rfl))) hI111
              have I283 : jI119 σ234 := jI119_fr ((f236 68 (of_decide_eq_true rfl)).trans (f54 68 (of_decide_eq_true rfl))) hI119
              have p284 : jKept σ234 := jKept.fr ((f236 75 (of_decide_eq_true rfl)).trans (f54 75 (of_decide_eq_true rfl))) ((f236 76 (of_decide_eq_true rfl)).trans (f54 76 (of_decide_eq_true rfl))) ((f236 77 (of_decide_eq_true rfl)).trans (f54 77 (of_decide_eq_true rfl))) hs_jKept
              have p285 : jBook σ234 := jBook.fr ((f237 47 (of_decide_eq_true rfl)).trans (congrFun (f54 55 (of_decide_eq_true rfl)) 47)) ((f237 10 (of_decide_eq_true rfl)).trans (congrFun (f54 55 (of_decide_eq_true rfl)) 10)) ((f236 81 (of_decide_eq_true rfl)).trans (f54 81 (of_decide_eq_true rfl))) hs_jBook
              have z286 : (σ234 2 0).toInt = (σ 2 0).toInt := (congrArg Int32.toInt (show σ234 2 0 = (σ 2 0) from ((congrFun (f236 2 (of_decide_eq_true rfl)) 0).trans (congrFun (f54 2 (of_decide_eq_true rfl)) 0))))
              have z287 : (σ234 55 6).toInt = (σ 55 6).toInt := (congrArg Int32.toInt (show σ234 55 6 = (σ 55 6) from ((f237 6 (of_decide_eq_true rfl)).trans (congrFun (f54 55 (of_decide_eq_true rfl)) 6))))
              have z288 : (σ234 2 2).toInt = (σ 2 2).toInt := (congrArg Int32.toInt (show σ234 2 2 = (σ 2 2) from ((congrFun (f236 2 (of_decide_eq_true rfl)) 2).trans (congrFun (f54 2 (of_decide_eq_true rfl)) 2))))
              have z289 : (σ234 55 5).toInt = (σ 55 5).toInt := (congrArg Int32.toInt (show σ234 55 5 = (σ 55 5) from ((f237 5 (of_decide_eq_true rfl)).trans (congrFun (f54 55 (of_decide_eq_true rfl)) 5))))
              have z290 : (σ234 2 3).toInt = (σ 2 3).toInt := (congrArg Int32.toInt (show σ234 2 3 = (σ 2 3) from ((congrFun (f236 2 (of_decide_eq_true rfl)) 3).trans (congrFun (f54 2 (of_decide_eq_true rfl)) 3))))
              have z291 : (σ234 55 4).toInt = (σ 55 4).toInt := (congrArg Int32.toInt (show σ234 55 4 = (σ 55 4) from ((f237 4 (of_decide_eq_true rfl)).trans (congrFun (f54 55 (of_decide_eq_true rfl)) 4))))
              have z292 : (σ234 9 0).toInt = (σ 9 0).toInt := (congrArg Int32.toInt (show σ234 9 0 = (σ 9 0) from ((congrFun (f236 9 (of_decide_eq_true rfl)) 0).trans (congrFun (f54 9 (of_decide_eq_true rfl)) 0))))
              have z293 : (σ234 55 15).toInt = (σ 55 15).toInt := (congrArg Int32.toInt (show σ234 55 15 = (σ 55 15) from ((f237 15 (of_decide_eq_true rfl)).trans (congrFun (f54 55 (of_decide_eq_true rfl)) 15))))
              have z294 : (σ234 16 0).toInt = (σ 16 0).toInt := (congrArg Int32.toInt (show σ234 16 0 = (σ 16 0) from ((congrFun (f236 16 (of_decide_eq_true rfl)) 0).trans (congrFun (f54 16 (of_decide_eq_true rfl)) 0))))
              have z295 : (σ234 55 10).toInt = (σ 55 10).toInt := (congrArg Int32.toInt (show σ234 55 10 = (σ 55 10) from ((f237 10 (of_decide_eq_true rfl)).trans (congrFun (f54 55 (of_decide_eq_true rfl)) 10))))
              have z296 : (σ234 16 1).toInt = (σ 16 1).toInt := (congrArg Int32.toInt (show σ234 16 1 = (σ 16 1) from ((congrFun (f236 16 (of_decide_eq_true rfl)) 1).trans (congrFun (f54 16 (of_decide_eq_true rfl)) 1))))
              have z297 : (σ234 55 12).toInt = (σ 55 12).toInt := (congrArg Int32.toInt (show σ234 55 12 = (σ 55 12) from ((f237 12 (of_decide_eq_true rfl)).trans (congrFun (f54 55 (of_decide_eq_true rfl)) 12))))
              have z298 : (σ234 16 2).toInt = (σ 16 2).toInt := (congrArg Int32.toInt (show σ234 16 2 = (σ 16 2) from ((congrFun (f236 16 (of_decide_eq_true rfl)) 2).trans (congrFun (f54 16 (of_decide_eq_true rfl)) 2))))
              have z299 : (σ234 55 13).toInt = (σ 55 13).toInt := (congrArg Int32.toInt (show σ234 55 13 = (σ 55 13) from ((f237 13 (of_decide_eq_true rfl)).trans (congrFun (f54 55 (of_decide_eq_true rfl)) 13))))
              have z300 : (σ234 38 0).toInt = (σ52 38 0).toInt := (congrArg Int32.toInt (show σ234 38 0 = (σ52 38 0) from (congrFun (f236 38 (of_decide_eq_true rfl)) 0)))
              have z301 : (σ234 38 1).toInt = (σ 38 1).toInt := (congrArg Int32.toInt (show σ234 38 1 = (σ 38 1) from ((congrFun (f236 38 (of_decide_eq_true rfl)) 1).trans (f55 1 (of_decide_eq_true rfl)))))
              have z302 : (σ234 55 55).toInt = (σ 55 55).toInt := (congrArg Int32.toInt (show σ234 55 55 = (σ 55 55) from ((f237 55 (of_decide_eq_true rfl)).trans (congrFun (f54 55 (of_decide_eq_true rfl)) 55))))
              have z303 : (σ234 47 0).toInt = (σ 47 0).toInt := (congrArg Int32.toInt (show σ234 47 0 = (σ 47 0) from ((congrFun (f236 47 (of_decide_eq_true rfl)) 0).trans (congrFun (f54 47 (of_decide_eq_true rfl)) 0))))
              have z304 : (σ234 55 47).toInt = (σ 55 47).toInt := (congrArg Int32.toInt (show σ234 55 47 = (σ 55 47) from ((f237 47 (of_decide_eq_true rfl)).trans (congrFun (f54 55 (of_decide_eq_true rfl)) 47))))
              have z305 : (σ234 55 30).toInt = (σ 55 30).toInt := (congrArg Int32.toInt (show σ234 55 30 = (σ 55 30) from ((f237 30 (of_decide_eq_true rfl)).trans (congrFun (f54 55 (of_decide_eq_true rfl)) 30))))
              have z306 : (σ234 55 31).toInt = (σ 55 31).toInt := (congrArg Int32.toInt (show σ234 55 31 = (σ 55 31) from ((f237 31 (of_decide_eq_true rfl)).trans (congrFun (f54 55 (of_decide_eq_true rfl)) 31))))
              rw [show (σ 38 0).toInt = (σ 55 32).toInt from by omega] at k230
              rw [show (σ52 55 32).toInt = (σ 55 32).toInt from by omega, show σ52 70 = σ 70 from (f54 70 (of_decide_eq_true rfl))] at k260
              exact by
               have p308 : jKd (σ234 39) (σ234 70) (σ234 55 32).toInt := hr8.on (by rw [show σ234 39 = σ52 39 from (f236 39 (of_decide_eq_true rfl))]; exact k230) k260 (by omega) (by omega)
               exact by exact ih x262 σ234 τ _ _ ls (by have h9 := tx262; omega) ⟨I263, I264, I265, I266, I267, I268, I269, I270, I271, I272, I273, I274, I275, I276, I277, I278, I238, I279, I280, I281, I282, I283, p284, p285, (by omega), (by omega), (by omega), (by omega), (by omega), (by omega), (by omega), (by omega), (by omega), (by omega), (by omega), (by omega), (show jNumP (σ234 3) (σ234 56) (σ234 6) (σ234 57) (σ234 7) (σ234 58) (σ234 8) (σ234 59) (σ234 55 6).toInt (σ234 55 4).toInt by rw [show σ234 3 = σ 3 from ((f236 3 (of_decide_eq_true rfl)).trans (f54 3 (of_decide_eq_true rfl))), show σ234 56 = σ 56 from ((f236 56 (of_decide_eq_true rfl)).trans (f54 56 (of_decide_eq_true rfl))), show σ234 6 = σ 6 from ((f236 6 (of_decide_eq_true rfl)).trans (f54 6 (of_decide_eq_true rfl))), show σ234 57 = σ 57 from ((f236 57 (of_decide_eq_true rfl)).trans (f54 57 (of_decide_eq_true rfl))), show σ234 7 = σ 7 from ((f236 7 (of_decide_eq_true rfl)).trans (f54 7 (of_decide_eq_true rfl))), show σ234 58 = σ 58 from ((f236 58 (of_decide_eq_true rfl)).trans (f54 58 (of_decide_eq_true rfl))), show σ234 8 = σ 8 from ((f236 8 (of_decide_eq_true rfl)).trans (f54 8 (of_decide_eq_true rfl))), show σ234 59 = σ 59 from ((f236 59 (of_decide_eq_true rfl)).trans (f54 59 (of_decide_eq_true rfl))), show (σ234 55 6).toInt = (σ 55 6).toInt from by omega, show (σ234 55 4).toInt = (σ 55 4).toInt from by omega]; exact hr0), (show jOvP (σ234 56) (σ234 57) (σ234 58) (σ234 59) (σ234 55 4).toInt by rw [show σ234 56 = σ 56 from ((f236 56 (of_decide_eq_true rfl)).trans (f54 56 (of_decide_eq_true rfl))), show σ234 57 = σ 57 from ((f236 57 (of_decide_eq_true rfl)).trans (f54 57 (of_decide_eq_true rfl))), show σ234 58 = σ 58 from ((f236 58 (of_decide_eq_true rfl)).trans (f54 58 (of_decide_eq_true rfl))), show σ234 59 = σ 59 from ((f236 59 (of_decide_eq_true rfl)).trans (f54 59 (of_decide_eq_true rfl))), show (σ234 55 4).toInt = (σ 55 4).toInt from by omega]; exact hr1), (show jTp (σ234 10) (σ234 63) (σ234 55 15).toInt by rw [show σ234 10 = σ 10 from ((f236 10 (of_decide_eq_true rfl)).trans (f54 10 (of_decide_eq_true rfl))), show σ234 63 = σ 63 from ((f236 63 (of_decide_eq_true rfl)).trans (f54 63 (of_decide_eq_true rfl)))]; exact hr2.le (by omega)), (show jSo (σ234 17) (σ234 62) (σ234 16 0).toInt by rw [show σ234 17 = σ 17 from ((f236 17 (of_decide_eq_true rfl)).trans (f54 17 (of_decide_eq_true rfl))), show σ234 62 = σ 62 from ((f236 62 (of_decide_eq_true rfl)).trans (f54 62 (of_decide_eq_true rfl))), show (σ234 16 0).toInt = (σ 16 0).toInt from by omega]; exact hr3), (show jShP (σ234 51) (σ234 52) (σ234 53) (σ234 86) (σ234 87) (σ234 55 32).toInt by rw [show σ234 51 = σ 51 from ((f236 51 (of_decide_eq_true rfl)).trans (f54 51 (of_decide_eq_true rfl))), show σ234 52 = σ 52 from ((f236 52 (of_decide_eq_true rfl)).trans (f54 52 (of_decide_eq_true rfl))), show σ234 53 = σ 53 from ((f236 53 (of_decide_eq_true rfl)).trans (f54 53 (of_decide_eq_true rfl))), show σ234 86 = σ 86 from ((f236 86 (of_decide_eq_true rfl)).trans (f54 86 (of_decide_eq_true rfl))), show σ234 87 = σ 87 from ((f236 87 (of_decide_eq_true rfl)).trans (f54 87 (of_decide_eq_true rfl)))]; exact (hr4.up (by omega) (by omega))), (show jEl (σ234 51) (σ234 52) (τ 54) (τ 88) by rw [show σ234 51 = σ 51 from ((f236 51 (of_decide_eq_true rfl)).trans (f54 51 (of_decide_eq_true rfl))), show σ234 52 = σ 52 from ((f236 52 (of_decide_eq_true rfl)).trans (f54 52 (of_decide_eq_true rfl)))]; exact hr5), (show jByP (σ234 51) (σ234 52) (τ 54) by rw [show σ234 51 = σ 51 from ((f236 51 (of_decide_eq_true rfl)).trans (f54 51 (of_decide_eq_true rfl))), show σ234 52 = σ 52 from ((f236 52 (of_decide_eq_true rfl)).trans (f54 52 (of_decide_eq_true rfl)))]; exact hr6), (show jBk (σ234 48) (σ234 80) (σ234 49) (σ234 81) (σ234 55 47).toInt by rw [show σ234 48 = σ 48 from ((f236 48 (of_decide_eq_true rfl)).trans (f54 48 (of_decide_eq_true rfl))), show σ234 49 = σ 49 from ((f236 49 (of_decide_eq_true rfl)).trans (f54 49 (of_decide_eq_true rfl))), show σ234 80 = σ 80 from ((f236 80 (of_decide_eq_true rfl)).trans (f54 80 (of_decide_eq_true rfl))), show σ234 81 = σ 81 from ((f236 81 (of_decide_eq_true rfl)).trans (f54 81 (of_decide_eq_true rfl))), show (σ234 55 47).toInt = (σ 55 47).toInt from by omega]; exact hr7), p308, (show jTt (σ234 42) (σ234 85) (σ234 55 55).toInt by rw [show σ234 42 = σ 42 from ((f236 42 (of_decide_eq_true rfl)).trans (f54 42 (of_decide_eq_true rfl))), show σ234 85 = σ 85 from ((f236 85 (of_decide_eq_true rfl)).trans (f54 85 (of_decide_eq_true rfl))), show (σ234 55 55).toInt = (σ 55 55).toInt from by omega]; exact hr9)⟩ hP hS (lv_sub hl [0, 1, 2, 3] rfl)
set_option maxHeartbeats 4000000 in
set_option maxRecDepth 100000 in
theorem law_case_10 {p : Program} {e : Env} {s : State} {m : MethodId} {below : List Frame} {meth : Method} {c : Code} (l : Launch) {b L : Nat} {xs : Nat → Int32} {D : va_G} {cI cL : ClassId} {ad zz : Nat → Nat} (C0 : lw_At p s m meth c b L xs) (hJ : jD ad) (hA : ∀ q, jA ad q → s.heap.size ≤ q) (hK : jK D cI cL s) (hZ : jZ zz (fun q : Nat => s.heap.size ≤ q) s s.heap) {x0 : Int32} (hx0 : 0 ≤ x0.toInt) (hxL : x0.toInt + 6 ≤ (L : Int)) (hL : L ≤ 384) {σ : Nat → Nat → Int32} {τ : Nat → Nat → Int64} {H : Heap} {locs : List Loc} (hS : va_S (fun q : Nat => s.heap.size ≤ q) s.heap H locs) {ls : Array Slot} (hAll : jAll σ τ) (hP : jH D cI cL ad σ τ H) (hl : lv_has ls 4 [(3, .int x0), (2, .ref (ad 55)), (1, .ref (ad 0)), (0, .ref b)]) (ih : ∀ (x1 : Int32) (σ : Nat → Nat → Int32) (τ : Nat → Nat → Int64) (H : Heap) (locs : List Loc) (ls : Array Slot), x1.toInt = x0.toInt + 6 → jAll σ τ → jH D cI cL ad σ τ H → va_S (fun q : Nat => s.heap.size ≤ q) s.heap H locs → lv_has ls 4 [(3, .int x1), (2, .ref (ad 55)), (1, .ref (ad 0)), (0, .ref b)] → W p l e room_1 s m #[Value.ref b] below meth c H locs 90 348600 (lw_Z below #[Value.ref b] s) (F0 m 18 ls [])) : W p l e room_1 s m #[Value.ref b] below meth c H locs 90 348600 (lw_Z below #[Value.ref b] s) (F0 m 526 ls []) := by
  obtain ⟨hx, hb, hr, hml, hown, hts0, hX, hbl, hlocks, hgv⟩ := C0
  have hts : ∀ w ∈ wsL_law, w.before #[Value.ref b] s = true := fun w h => hts0 w (wsL_law_in w h)
  have hbA : ¬ (fun q : Nat => s.heap.size ≤ q) b := Nat.not_le.mpr hbl
  have hown : s.vm.findClass RL = some m.cls := hown
  obtain ⟨hI2, hI9, hI12, hI16, hI18, hI22, hI31, hI38, hI43, hI47, hI50, hI101, hI102, hI103, hI104, hI105, hI106, hI107, hI109, hI110, hI111, hI119, hs_jKept, hs_jBook, ht0, ht1, ht2, ht3, ht4, ht5, ht6, ht7, ht8, ht9, ht10, ht11, hr0, hr1, hr2, hr3, hr4, hr5, hr6, hr7, hr8, hr9⟩ := hAll
  have hL9 : (L : Int) ≤ 384 := by omega
  obtain ⟨i1, i2, i3, i4, i5, w6⟩ : (0 ≤ (σ 2 0).toInt ∧ (σ 2 0).toInt ≤ 4) ∧ (0 ≤ (σ 2 1).toInt ∧ (σ 2 1).toInt ≤ 3) ∧ (0 ≤ (σ 2 2).toInt) ∧ (0 ≤ (σ 2 3).toInt) ∧ ((σ 2 2).toInt + (σ 2 3).toInt ≤ 40) ∧ (∀ k : Nat, k < 40 → 0 ≤ (σ 6 k).toInt ∧ (σ 6 k).toInt ≤ 67) := id hI2
  obtain ⟨i7, w8, w9⟩ : (0 ≤ (σ 9 0).toInt ∧ (σ 9 0).toInt ≤ 80) ∧ (∀ k : Nat, k < 80 → 0 ≤ (σ 10 k).toInt ∧ (σ 10 k).toInt ≤ 255) ∧ (∀ k : Nat, k < 8 → 0 ≤ (σ 11 k).toInt ∧ (σ 11 k).toInt ≤ 3) := id hI9
  obtain ⟨i10, i11, i12, w13⟩ : (1 ≤ (σ 16 0).toInt ∧ (σ 16 0).toInt ≤ 8) ∧ (1 ≤ (σ 16 1).toInt ∧ (σ 16 1).toInt ≤ 12) ∧ (0 ≤ (σ 16 2).toInt ∧ (σ 16 2).toInt ≤ 999) ∧ (∀ k : Nat, k < 8 → 0 ≤ (σ 17 k).toInt ∧ (σ 17 k).toInt ≤ 3) := id hI16
  obtain ⟨i14, i15, w16⟩ : (0 ≤ (σ 38 0).toInt ∧ (σ 38 0).toInt ≤ 20) ∧ (0 ≤ (σ 38 1).toInt ∧ (σ 38 1).toInt ≤ 1000) ∧ (∀ k : Nat, k < 20 → 0 ≤ (σ 39 k).toInt ∧ (σ 39 k).toInt ≤ 6) := id hI38
  obtain ⟨i17, w18, w19⟩ : (0 ≤ (σ 47 0).toInt ∧ (σ 47 0).toInt ≤ 12) ∧ (∀ k : Nat, k < 12 → 0 ≤ (σ 48 k).toInt ∧ (σ 48 k).toInt ≤ 3) ∧ (∀ k : Nat, k < 12 → 0 ≤ (σ 49 k).toInt ∧ (σ 49 k).toInt ≤ 1) := id hI47
  have w20 : ∀ k : Nat, k < 6 → 0 ≤ (σ 52 k).toInt ∧ (σ 52 k).toInt ≤ 60 := hI50
  obtain ⟨i21, i22, i23, w24, w25, w26, w27⟩ : (0 ≤ (σ 55 5).toInt) ∧ ((σ 55 5).toInt ≤ (σ 55 4).toInt) ∧ ((σ 55 4).toInt ≤ 40) ∧ (∀ k : Nat, k < 68 → (-200) ≤ (σ 56 k).toInt ∧ (σ 56 k).toInt ≤ 500) ∧ (∀ k : Nat, k < 40 → 0 ≤ (σ 57 k).toInt ∧ (σ 57 k).toInt ≤ 67) ∧ (∀ k : Nat, k < 40 → (-200) ≤ (σ 58 k).toInt ∧ (σ 58 k).toInt ≤ 500) ∧ (∀ k : Nat, k < 40 → (-200) ≤ (σ 59 k).toInt ∧ (σ 59 k).toInt ≤ 500) := id hI101
  obtain ⟨i28, w29, w30⟩ : (0 ≤ (σ 55 6).toInt ∧ (σ 55 6).toInt ≤ 4) ∧ (∀ k : Nat, k < 4 → 0 ≤ (σ 60 k).toInt ∧ (σ 60 k).toInt ≤ 50) ∧ (∀ k : Nat, k < 4 → 0 ≤ (σ 61 k).toInt ∧ (σ 61 k).toInt ≤ 20) := id hI102
  obtain ⟨i31, i32, i33, w34, w35⟩ : (1 ≤ (σ 55 10).toInt ∧ (σ 55 10).toInt ≤ 8) ∧ (1 ≤ (σ 55 12).toInt ∧ (σ 55 12).toInt ≤ 12) ∧ (0 ≤ (σ 55 13).toInt ∧ (σ 55 13).toInt ≤ 999) ∧ (∀ k : Nat, k < 8 → 0 ≤ (σ 62 k).toInt ∧ (σ 62 k).toInt ≤ 3) ∧ (∀ k : Nat, k < 8 → 0 ≤ (σ 67 k).toInt ∧ (σ 67 k).toInt ≤ 3) := id hI104
  obtain ⟨i36, w37⟩ : (0 ≤ (σ 55 15).toInt ∧ (σ 55 15).toInt ≤ 80) ∧ (∀ k : Nat, k < 2 → (-1) ≤ (σ 65 k).toInt ∧ (σ 65 k).toInt ≤ 80) := id hI105
  obtain ⟨i38, w39, w40, w41⟩ : (0 ≤ (σ 55 32).toInt ∧ (σ 55 32).toInt ≤ 20) ∧ (∀ k : Nat, k < 20 → 0 ≤ (σ 70 k).toInt ∧ (σ 70 k).toInt ≤ 6) ∧ (∀ k : Nat, k < 20 → 0 ≤ (σ 71 k).toInt ∧ (σ 71 k).toInt ≤ 8) ∧ (∀ k : Nat, k < 160 → 0 ≤ (σ 72 k).toInt ∧ (σ 72 k).toInt ≤ 3) := id hI106
  obtain ⟨i42, i43, w44⟩ : (0 ≤ (σ 55 47).toInt ∧ (σ 55 47).toInt ≤ 12) ∧ ((σ 55 47).toInt ≤ (σ 55 12).toInt) ∧ (∀ k : Nat, k < 12 → 0 ≤ (σ 80 k).toInt ∧ (σ 80 k).toInt ≤ 3) := id hI107
  refine lv_aload_n hx hb dL_law_526 rfl (lv_at hl 2 rfl) ?_
  refine lv_aload_n hx hb dL_law_527 rfl (lv_at hl 3 rfl) ?_
  refine lv_iload_n hx hb dL_law_528 rfl (lv_at hl 0 rfl) ?_
  refine lv_iconst (v := 1) hx hb dL_law_529 (of_decide_eq_true rfl) ?_
  have g45 := jrg (rfl : x0.toInt = x0.toInt)
  refine lv_iadd hx hb dL_law_530 ?_
  refine lv_topi (fun x46 ex46 => ?_)
  exact by
   have tx46 : x46.toInt = x0.toInt + 1 := (jadd ex46 rfl jz_1 (by omega) (by omega)).trans (by omega)
   refine va_sld hx hb hX hbl hbA hS (jin tx46 (by omega) (by omega)) dL_law_531 ?_
   have g47 := jrg (rfl : (xs x46.toNatClampNeg).toInt = (xs x46.toNatClampNeg).toInt)
   refine jcallV (As := [.int (xs x46.toNatClampNeg)]) (rest := []) ⟨hx, hb, hml, hown, hts⟩ hK hP hA hS hZ (c_X11_puts l D cI cL ad zz hJ σ τ (xs x46.toNatClampNeg) ((xs x46.toNatClampNeg).toInt) rfl hI2 hI16 hI18 hI22 hI31 hI38 hI47) cw_RL_57 (jc_0 cI cL ad σ τ) rfl ⟨Nat.le_of_ble_eq_true rfl, Nat.le_of_ble_eq_true rfl⟩ rfl rfl rfl hl.1 rfl (Nat.le_of_ble_eq_true rfl) dL_law_532 ⟨Nat.le_of_ble_eq_true rfl, Nat.le_of_ble_eq_true rfl⟩ (fun r49 σ48 τ48 H locs h48 hP hS => ?_)
   obtain ⟨rfl, f50, f51, I52, h48⟩ := h48
   refine lv_pop hx hb dL_law_535 rfl ?_
   refine lv_aload_n hx hb dL_law_536 rfl (lv_at hl 1 rfl) ?_
   refine lv_aload_n hx hb dL_law_537 rfl (lv_at hl 3 rfl) ?_
   refine lv_iload_n hx hb dL_law_538 rfl (lv_at hl 0 rfl) ?_
   exact by
    refine lv_iconst (v := 1) hx hb dL_law_539 (of_decide_eq_true rfl) ?_
    refine lv_iadd hx hb dL_law_540 ?_
    refine jtopr ex46.symm ?_
    refine va_sld hx hb hX hbl hbA hS (jin tx46 (by omega) (by omega)) dL_law_541 ?_
    have I54 : jI101 σ48 := jI101_fr (congrFun (f50 55 (of_decide_eq_true rfl)) 4) (congrFun (f50 55 (of_decide_eq_true rfl)) 5) (f50 56 (of_decide_eq_true rfl)) (f50 57 (of_decide_eq_true rfl)) (f50 58 (of_decide_eq_true rfl)) (f50 59 (of_decide_eq_true rfl)) hI101
    have I55 : jI102 σ48 := jI102_fr (congrFun (f50 55 (of_decide_eq_true rfl)) 6) (f50 60 (of_decide_eq_true rfl)) (f50 61 (of_decide_eq_true rfl)) hI102
    have I56 : jI103 σ48 := jI103_fr (congrFun (f50 55 (of_decide_eq_true rfl)) 9) hI103
    have I57 : jI104 σ48 := jI104_fr (congrFun (f50 55 (of_decide_eq_true rfl)) 10) (congrFun (f50 55 (of_decide_eq_true rfl)) 12) (congrFun (f50 55 (of_decide_eq_true rfl)) 13) (f50 62 (of_decide_eq_true rfl)) (f50 67 (of_decide_eq_true rfl)) hI104
    have I58 : jI105 σ48 := jI105_fr (congrFun (f50 55 (of_decide_eq_true rfl)) 15) (f50 65 (of_decide_eq_true rfl)) hI105
    exact by
     have I59 : jI106 σ48 := jI106_fr (congrFun (f50 55 (of_decide_eq_true rfl)) 32) (f50 70 (of_decide_eq_true rfl)) (f50 71 (of_decide_eq_true rfl)) (f50 72 (of_decide_eq_true rfl)) hI106
     have I60 : jI107 σ48 := jI107_fr (congrFun (f50 55 (of_decide_eq_true rfl)) 12) (congrFun (f50 55 (of_decide_eq_true rfl)) 47) (f50 80 (of_decide_eq_true rfl)) hI107
     have I61 : jI119 σ48 := jI119_fr (f50 68 (of_decide_eq_true rfl)) hI119
     have p62 : jKept σ48 := jKept.fr (f50 75 (of_decide_eq_true rfl)) (f50 76 (of_decide_eq_true rfl)) (f50 77 (of_decide_eq_true rfl)) hs_jKept
     have p63 : jBook σ48 := jBook.fr (congrFun (f50 55 (of_decide_eq_true rfl)) 47) (congrFun (f50 55 (of_decide_eq_true rfl)) 10) (f50 81 (of_decide_eq_true rfl)) hs_jBook
     refine jcallV (As := [.int (xs x46.toNatClampNeg)]) (rest := []) ⟨hx, hb, hml, hown, hts⟩ hK hP hA hS hZ (c_X12_puts l D cI cL ad zz hJ σ48 τ (xs x46.toNatClampNeg) ((xs x46.toNatClampNeg).toInt) rfl I54 I55 I56 I57 I58 I59 I60 I61 p62 p63) cw_RL_60 (jc_55 cI cL ad σ48 τ) rfl ⟨Nat.le_of_ble_eq_true rfl, Nat.le_of_ble_eq_true rfl⟩ rfl rfl rfl hl.1 rfl (Nat.le_of_ble_eq_true rfl) dL_law_542 ⟨Nat.le_of_ble_eq_true rfl, Nat.le_of_ble_eq_true rfl⟩ (fun r65 σ64 τ64 H locs h64 hP hS => ?_)
     obtain ⟨rfl, f66, f67, I68, p69, p70, h64⟩ := h64
     refine lv_pop hx hb dL_law_545 rfl ?_
     refine lv_goto (tgt := 1357) hx hb dL_law_546 (of_decide_eq_true rfl) ?_
     obtain ⟨x72, ex72⟩ : ∃ y : Int32, y = x0 + 6 := ⟨_, rfl⟩
     exact by
      have tx72 : x72.toInt = x0.toInt + 6 := (jadd ex72 rfl jz_6 (by omega) (by omega)).trans (by omega)
      refine lv_iinc (v := x72) (lv' := [(3, .int x72), (2, .ref (ad 55)), (1, .ref (ad 0)), (0, .ref b)]) hx hb dL_law_1357 hl (k := 0) rfl (by rw [ex72]; rfl) (of_decide_eq_true rfl) rfl (fun ls hl => ?_)
      refine lv_goto (tgt := 18) hx hb dL_law_1360 (of_decide_eq_true rfl) ?_
      have I73 : jI2 σ64 := jI2_fr ((congrFun (f66 2 (of_decide_eq_true rfl)) 0).trans (congrFun (f50 2 (of_decide_eq_true rfl)) 0)) ((congrFun (f66 2 (of_decide_eq_true rfl)) 1).trans (congrFun (f50 2 (of_decide_eq_true rfl)) 1)) ((congrFun (f66 2 (of_decide_eq_true rfl)) 2).trans (congrFun (f50 2 (of_decide_eq_true rfl)) 2)) ((congrFun (f66 2 (of_decide_eq_true rfl)) 3).trans (congrFun (f50 2 (of_decide_eq_true rfl)) 3)) ((f66 6 (of_decide_eq_true rfl)).trans (f50 6 (of_decide_eq_true rfl))) hI2
      have I74 : jI9 σ64 := jI9_fr ((congrFun (f66 9 (of_decide_eq_true rfl)) 0).trans (congrFun (f50 9 (of_decide_eq_true rfl)) 0)) ((f66 10 (of_decide_eq_true rfl)).trans (f50 10 (of_decide_eq_true rfl))) ((f66 11 (of_decide_eq_true rfl)).trans (f50 11 (of_decide_eq_true rfl))) hI9
      have I75 : jI12 σ64 := jI12_fr ((congrFun (f66 12 (of_decide_eq_true rfl)) 0).trans (congrFun (f50 12 (of_decide_eq_true rfl)) 0)) ((f66 13 (of_decide_eq_true rfl)).trans (f50 13 (of_decide_eq_true rfl))) hI12
      have I76 : jI16 σ64 := jI16_fr ((congrFun (f66 16 (of_decide_eq_true rfl)) 0).trans (congrFun (f50 16 (of_decide_eq_true rfl)) 0)) ((congrFun (f66 16 (of_decide_eq_true rfl)) 1).trans (congrFun (f50 16 (of_decide_eq_true rfl)) 1)) ((congrFun (f66 16 (of_decide_eq_true rfl)) 2).trans (congrFun (f50 16 (of_decide_eq_true rfl)) 2)) ((f66 17 (of_decide_eq_true rfl)).trans (f50 17 (of_decide_eq_true rfl))) hI16
      have I77 : jI18 σ64 := jI18_fr ((congrFun (f66 18 (of_decide_eq_true rfl)) 0).trans (congrFun (f50 18 (of_decide_eq_true rfl)) 0)) ((f66 19 (of_decide_eq_true rfl)).trans (f50 19 (of_decide_eq_true rfl))) hI18
      have I78 : jI22 σ64 := jI22_fr ((congrFun (f66 22 (of_decide_eq_true rfl)) 0).trans (congrFun (f50 22 (of_decide_eq_true rfl)) 0)) ((f66 23 (of_decide_eq_true rfl)).trans (f50 23 (of_decide_eq_true rfl))) hI22
      exact by
       have I79 : jI31 σ64 := jI31_fr (congrFun (f66 31 (of_decide_eq_true rfl)) 8) (f66 33 (of_decide_eq_true rfl)) (f66 36 (of_decide_eq_true rfl)) I52
       have I80 : jI38 σ64 := jI38_fr ((congrFun (f66 38 (of_decide_eq_true rfl)) 0).trans (congrFun (f50 38 (of_decide_eq_true rfl)) 0)) ((congrFun (f66 38 (of_decide_eq_true rfl)) 1).trans (congrFun (f50 38 (of_decide_eq_true rfl)) 1)) ((f66 39 (of_decide_eq_true rfl)).trans (f50 39 (of_decide_eq_true rfl))) hI38
       have I81 : jI43 σ64 := jI43_fr ((congrFun (f66 43 (of_decide_eq_true rfl)) 8).trans (congrFun (f50 43 (of_decide_eq_true rfl)) 8)) hI43
       have I82 : jI47 σ64 := jI47_fr ((congrFun (f66 47 (of_decide_eq_true rfl)) 0).trans (congrFun (f50 47 (of_decide_eq_true rfl)) 0)) ((f66 48 (of_decide_eq_true rfl)).trans (f50 48 (of_decide_eq_true rfl))) ((f66 49 (of_decide_eq_true rfl)).trans (f50 49 (of_decide_eq_true rfl))) hI47
       have I83 : jI50 σ64 := jI50_fr ((f66 52 (of_decide_eq_true rfl)).trans (f50 52 (of_decide_eq_true rfl))) hI50
       have I84 : jI101 σ64 := jI101_fr (f67 4 (of_decide_eq_true rfl)) (f67 5 (of_decide_eq_true rfl)) (f66 56 (of_decide_eq_true rfl)) (f66 57 (of_decide_eq_true rfl)) (f66 58 (of_decide_eq_true rfl)) (f66 59 (of_decide_eq_true rfl)) I54
       have I85 : jI102 σ64 := jI102_fr (f67 6 (of_decide_eq_true rfl)) (f66 60 (of_decide_eq_true rfl)) (f66 61 (of_decide_eq_true rfl)) I55
       have I86 : jI103 σ64 := jI103_fr (f67 9 (of_decide_eq_true rfl)) I56
       have I87 : jI104 σ64 := jI104_fr (f67 10 (of_decide_eq_true rfl)) (f67 12 (of_decide_eq_true rfl)) (f67 13 (of_decide_eq_true rfl)) (f66 62 (of_decide_eq_true rfl)) (f66 67 (of_decide_eq_true rfl)) I57
       have I88 : jI105 σ64 := jI105_fr (f67 15 (of_decide_eq_true rfl)) (f66 65 (of_decide_eq_true rfl)) I58
       have I89 : jI106 σ64 := jI106_fr (f67 32 (of_decide_eq_true rfl)) (f66 70 (of_decide_eq_true rfl)) (f66 71 (of_decide_eq_true rfl)) (f66 72 (of_decide_eq_true rfl)) I59
       have I90 : jI107 σ64 := jI107_fr (f67 12 (of_decide_eq_true rfl)) (f67 47 (of_decide_eq_true rfl)) (f66 80 (of_decide_eq_true rfl)) I60
       have I91 : jI109 σ64 := jI109_fr ((f67 50 (of_decide_eq_true rfl)).trans (congrFun (f50 55 (of_decide_eq_true rfl)) 50)) hI109
       have I92 : jI110 σ64 := jI110_fr ((f66 86 (of_decide_eq_true rfl)).trans (f50 86 (of_decide_eq_true rfl))) ((f66 87 (of_decide_eq_true rfl)).trans (f50 87 (of_decide_eq_true rfl))) hI110
       have I93 : jI111 σ64 := jI111_fr ((f66 79 (of_decide_eq_true rfl)).trans (f50 79 (of_decide_eq_true rfl))) hI111
       have z94 : (σ64 2 0).toInt = (σ 2 0).toInt := (congrArg Int32.toInt (show σ64 2 0 = (σ 2 0) from ((congrFun (f66 2 (of_decide_eq_true rfl)) 0).trans (congrFun (f50 2 (of_decide_eq_true rfl)) 0))))
       have z95 : (σ64 55 6).toInt = (σ 55 6).toInt := (congrArg Int32.toInt (show σ64 55 6 = (σ 55 6) from ((f67 6 (of_decide_eq_true rfl)).trans (congrFun (f50 55 (of_decide_eq_true rfl)) 6))))
       have z96 : (σ64 2 2).toInt = (σ 2 2).toInt := (congrArg Int32.toInt (show σ64 2 2 = (σ 2 2) from ((congrFun (f66 2 (of_decide_eq_true rfl)) 2).trans (congrFun (f50 2 (of_decide_eq_true rfl)) 2))))
       have z97 : (σ64 55 5).toInt = (σ 55 5).toInt := (congrArg Int32.toInt (show σ64 55 5 = (σ 55 5) from ((f67 5 (of_decide_eq_true rfl)).trans (congrFun (f50 55 (of_decide_eq_true rfl)) 5))))
       have z98 : (σ64 2 3).toInt = (σ 2 3).toInt := (congrArg Int32.toInt (show σ64 2 3 = (σ 2 3) from ((congrFun (f66 2 (of_decide_eq_true rfl)) 3).trans (congrFun (f50 2 (of_decide_eq_true rfl)) 3))))
       have z99 : (σ64 55 4).toInt = (σ 55 4).toInt := (congrArg Int32.toInt (show σ64 55 4 = (σ 55 4) from ((f67 4 (of_decide_eq_true rfl)).trans (congrFun (f50 55 (of_decide_eq_true rfl)) 4))))
       have z100 : (σ64 9 0).toInt = (σ 9 0).toInt := (congrArg Int32.toInt (show σ64 9 0 = (σ 9 0) from ((congrFun (f66 9 (of_decide_eq_true rfl)) 0).trans (congrFun (f50 9 (of_decide_eq_true rfl)) 0))))
       have z101 : (σ64 55 15).toInt = (σ 55 15).toInt := (congrArg Int32.toInt (show σ64 55 15 = (σ 55 15) from ((f67 15 (of_decide_eq_true rfl)).trans (congrFun (f50 55 (of_decide_eq_true rfl)) 15))))
       have z102 : (σ64 16 0).toInt = (σ 16 0).toInt := (congrArg Int32.toInt (show σ64 16 0 = (σ 16 0) from ((congrFun (f66 16 (of_decide_eq_true rfl)) 0).trans (congrFun (f50 16 (of_decide_eq_true rfl)) 0))))
       have z103 : (σ64 55 10).toInt = (σ 55 10).toInt := (congrArg Int32.toInt (show σ64 55 10 = (σ 55 10) from ((f67 10 (of_decide_eq_true rfl)).trans (congrFun (f50 55 (of_decide_eq_true rfl)) 10))))
       have z104 : (σ64 16 1).toInt = (σ 16 1).toInt := (congrArg Int32.toInt (show σ64 16 1 = (σ 16 1) from ((congrFun (f66 16 (of_decide_eq_true rfl)) 1).trans (congrFun (f50 16 (of_decide_eq_true rfl)) 1))))
       have z105 : (σ64 55 12).toInt = (σ 55 12).toInt := (congrArg Int32.toInt (show σ64 55 12 = (σ 55 12) from ((f67 12 (of_decide_eq_true rfl)).trans (congrFun (f50 55 (of_decide_eq_true rfl)) 12))))
       have z106 : (σ64 16 2).toInt = (σ 16 2).toInt := (congrArg Int32.toInt (show σ64 16 2 = (σ 16 2) from ((congrFun (f66 16 (of_decide_eq_true rfl)) 2).trans (congrFun (f50 16 (of_decide_eq_true rfl)) 2))))
       have z107 : (σ64 55 13).toInt = (σ 55 13).toInt := (congrArg Int32.toInt (show σ64 55 13 = (σ 55 13) from ((f67 13 (of_decide_eq_true rfl)).trans (congrFun (f50 55 (of_decide_eq_true rfl)) 13))))
       have z108 : (σ64 38 0).toInt = (σ 38 0).toInt := (congrArg Int32.toInt (show σ64 38 0 = (σ 38 0) from ((congrFun (f66 38 (of_decide_eq_true rfl)) 0).trans (congrFun (f50 38 (of_decide_eq_true rfl)) 0))))
       have z109 : (σ64 55 32).toInt = (σ 55 32).toInt := (congrArg Int32.toInt (show σ64 55 32 = (σ 55 32) from ((f67 32 (of_decide_eq_true rfl)).trans (congrFun (f50 55 (of_decide_eq_true rfl)) 32))))
       have z110 : (σ64 38 1).toInt = (σ 38 1).toInt := (congrArg Int32.toInt (show σ64 38 1 = (σ 38 1) from ((congrFun (f66 38 (of_decide_eq_true rfl)) 1).trans (congrFun (f50 38 (of_decide_eq_true rfl)) 1))))
       have z111 : (σ64 55 55).toInt = (σ 55 55).toInt := (congrArg Int32.toInt (show σ64 55 55 = (σ 55 55) from ((f67 55 (of_decide_eq_true rfl)).trans (congrFun (f50 55 (of_decide_eq_true rfl)) 55))))
       have z112 : (σ64 47 0).toInt = (σ 47 0).toInt := (congrArg Int32.toInt (show σ64 47 0 = (σ 47 0) from ((congrFun (f66 47 (of_decide_eq_true rfl)) 0).trans (congrFun (f50 47 (of_decide_eq_true rfl)) 0))))
       have z113 : (σ64 55 47).toInt = (σ 55 47).toInt := (congrArg Int32.toInt (show σ64 55 47 = (σ 55 47) from ((f67 47 (of_decide_eq_true rfl)).trans (congrFun (f50 55 (of_decide_eq_true rfl)) 47))))
       have z114 : (σ64 55 30).toInt = (σ 55 30).toInt := (congrArg Int32.toInt (show σ64 55 30 = (σ 55 30) from ((f67 30 (of_decide_eq_true rfl)).trans (congrFun (f50 55 (of_decide_eq_true rfl)) 30))))
       have z115 : (σ64 55 31).toInt = (σ 55 31).toInt := (congrArg Int32.toInt (show σ64 55 31 = (σ 55 31) from ((f67 31 (of_decide_eq_true rfl)).trans (congrFun (f50 55 (of_decide_eq_true rfl)) 31))))
       exact by exact ih x72 σ64 τ _ _ ls (by have h9 := tx72; omega) ⟨I73, I74, I75, I76, I77, I78, I79, I80, I81, I82, I83, I84, I85, I86, I87, I88, I89, I90, I91, I92, I93, I68, p69, p70, (by omega), (by omega), (by omega), (by omega), (by omega), (by omega), (by omega), (by omega), (by omega), (by omega), (by omega), (by omega), (show jNumP (σ64 3) (σ64 56) (σ64 6) (σ64 57) (σ64 7) (σ64 58) (σ64 8) (σ64 59) (σ64 55 6).toInt (σ64 55 4).toInt by rw [show σ64 3 = σ 3 from ((f66 3 (of_decide_eq_true rfl)).trans (f50 3 (of_decide_eq_true rfl))), show σ64 56 = σ 56 from ((f66 56 (of_decide_eq_true rfl)).trans (f50 56 (of_decide_eq_true rfl))), show σ64 6 = σ 6 from ((f66 6 (of_decide_eq_true rfl)).trans (f50 6 (of_decide_eq_true rfl))), show σ64 57 = σ 57 from ((f66 57 (of_decide_eq_true rfl)).trans (f50 57 (of_decide_eq_true rfl))), show σ64 7 = σ 7 from ((f66 7 (of_decide_eq_true rfl)).trans (f50 7 (of_decide_eq_true rfl))), show σ64 58 = σ 58 from ((f66 58 (of_decide_eq_true rfl)).trans (f50 58 (of_decide_eq_true rfl))), show σ64 8 = σ 8 from ((f66 8 (of_decide_eq_true rfl)).trans (f50 8 (of_decide_eq_true rfl))), show σ64 59 = σ 59 from ((f66 59 (of_decide_eq_true rfl)).trans (f50 59 (of_decide_eq_true rfl))), show (σ64 55 6).toInt = (σ 55 6).toInt from by omega, show (σ64 55 4).toInt = (σ 55 4).toInt from by omega]; exact hr0), (show jOvP (σ64 56) (σ64 57) (σ64 58) (σ64 59) (σ64 55 4).toInt by rw [show σ64 56 = σ 56 from ((f66 56 (of_decide_eq_true rfl)).trans (f50 56 (of_decide_eq_true rfl))), show σ64 57 = σ 57 from ((f66 57 (of_decide_eq_true rfl)).trans (f50 57 (of_decide_eq_true rfl))), show σ64 58 = σ 58 from ((f66 58 (of_decide_eq_true rfl)).trans (f50 58 (of_decide_eq_true rfl))), show σ64 59 = σ 59 from ((f66 59 (of_decide_eq_true rfl)).trans (f50 59 (of_decide_eq_true rfl))), show (σ64 55 4).toInt = (σ 55 4).toInt from by omega]; exact hr1), (show jTp (σ64 10) (σ64 63) (σ64 55 15).toInt by rw [show σ64 10 = σ 10 from ((f66 10 (of_decide_eq_true rfl)).trans (f50 10 (of_decide_eq_true rfl))), show σ64 63 = σ 63 from ((f66 63 (of_decide_eq_true rfl)).trans (f50 63 (of_decide_eq_true rfl)))]; exact hr2.le (by omega)), (show jSo (σ64 17) (σ64 62) (σ64 16 0).toInt by rw [show σ64 17 = σ 17 from ((f66 17 (of_decide_eq_true rfl)).trans (f50 17 (of_decide_eq_true rfl))), show σ64 62 = σ 62 from ((f66 62 (of_decide_eq_true rfl)).trans (f50 62 (of_decide_eq_true rfl))), show (σ64 16 0).toInt = (σ 16 0).toInt from by omega]; exact hr3), (show jShP (σ64 51) (σ64 52) (σ64 53) (σ64 86) (σ64 87) (σ64 55 32).toInt by rw [show σ64 51 = σ 51 from ((f66 51 (of_decide_eq_true rfl)).trans (f50 51 (of_decide_eq_true rfl))), show σ64 52 = σ 52 from ((f66 52 (of_decide_eq_true rfl)).trans (f50 52 (of_decide_eq_true rfl))), show σ64 53 = σ 53 from ((f66 53 (of_decide_eq_true rfl)).trans (f50 53 (of_decide_eq_true rfl))), show σ64 86 = σ 86 from ((f66 86 (of_decide_eq_true rfl)).trans (f50 86 (of_decide_eq_true rfl))), show σ64 87 = σ 87 from ((f66 87 (of_decide_eq_true rfl)).trans (f50 87 (of_decide_eq_true rfl)))]; exact (hr4.up (by omega) (by omega))), (show jEl (σ64 51) (σ64 52) (τ 54) (τ 88) by rw [show σ64 51 = σ 51 from ((f66 51 (of_decide_eq_true rfl)).trans (f50 51 (of_decide_eq_true rfl))), show σ64 52 = σ 52 from ((f66 52 (of_decide_eq_true rfl)).trans (f50 52 (of_decide_eq_true rfl)))]; exact hr5), (show jByP (σ64 51) (σ64 52) (τ 54) by rw [show σ64 51 = σ 51 from ((f66 51 (of_decide_eq_true rfl)).trans (f50 51 (of_decide_eq_true rfl))), show σ64 52 = σ 52 from ((f66 52 (of_decide_eq_true rfl)).trans (f50 52 (of_decide_eq_true rfl)))]; exact hr6), (show jBk (σ64 48) (σ64 80) (σ64 49) (σ64 81) (σ64 55 47).toInt by rw [show σ64 48 = σ 48 from ((f66 48 (of_decide_eq_true rfl)).trans (f50 48 (of_decide_eq_true rfl))), show σ64 49 = σ 49 from ((f66 49 (of_decide_eq_true rfl)).trans (f50 49 (of_decide_eq_true rfl))), show σ64 80 = σ 80 from ((f66 80 (of_decide_eq_true rfl)).trans (f50 80 (of_decide_eq_true rfl))), show σ64 81 = σ 81 from ((f66 81 (of_decide_eq_true rfl)).trans (f50 81 (of_decide_eq_true rfl))), show (σ64 55 47).toInt = (σ 55 47).toInt from by omega]; exact hr7), (show jKd (σ64 39) (σ64 70) (σ64 55 32).toInt by rw [show σ64 39 = σ 39 from ((f66 39 (of_decide_eq_true rfl)).trans (f50 39 (of_decide_eq_true rfl))), show σ64 70 = σ 70 from ((f66 70 (of_decide_eq_true rfl)).trans (f50 70 (of_decide_eq_true rfl))), show (σ64 55 32).toInt = (σ 55 32).toInt from by omega]; exact hr8), (show jTt (σ64 42) (σ64 85) (σ64 55 55).toInt by rw [show σ64 42 = σ 42 from ((f66 42 (of_decide_eq_true rfl)).trans (f50 42 (of_decide_eq_true rfl))), show σ64 85 = σ 85 from ((f66 85 (of_decide_eq_true rfl)).trans (f50 85 (of_decide_eq_true rfl))), show (σ64 55 55).toInt = (σ 55 55).toInt from by omega]; exact hr9)⟩ hP hS (lv_sub hl [0, 1, 2, 3] rfl)
set_option maxHeartbeats 4000000 in
set_option maxRecDepth 100000 in
theorem law_case_11 {p : Program} {e : Env} {s : State} {m : MethodId} {below : List Frame} {meth : Method} {c : Code} (l : Launch) {b L : Nat} {xs : Nat → Int32} {D : va_G} {cI cL : ClassId} {ad zz : Nat → Nat} (C0 : lw_At p s m meth c b L xs) (hJ : jD ad) (hA : ∀ q, jA ad q → s.heap.size ≤ q) (hK : jK D cI cL s) (hZ : jZ zz (fun q : Nat => s.heap.size ≤ q) s s.heap) {x0 : Int32} (hx0 : 0 ≤ x0.toInt) (hxL : x0.toInt + 6 ≤ (L : Int)) (hL : L ≤ 384) {σ : Nat → Nat → Int32} {τ : Nat → Nat → Int64} {H : Heap} {locs : List Loc} (hS : va_S (fun q : Nat => s.heap.size ≤ q) s.heap H locs) {ls : Array Slot} (hAll : jAll σ τ) (hP : jH D cI cL ad σ τ H) (hl : lv_has ls 4 [(3, .int x0), (2, .ref (ad 55)), (1, .ref (ad 0)), (0, .ref b)]) (ih : ∀ (x1 : Int32) (σ : Nat → Nat → Int32) (τ : Nat → Nat → Int64) (H : Heap) (locs : List Loc) (ls : Array Slot), x1.toInt = x0.toInt + 6 → jAll σ τ → jH D cI cL ad σ τ H → va_S (fun q : Nat => s.heap.size ≤ q) s.heap H locs → lv_has ls 4 [(3, .int x1), (2, .ref (ad 55)), (1, .ref (ad 0)), (0, .ref b)] → W p l e room_1 s m #[Value.ref b] below meth c H locs 90 348600 (lw_Z below #[Value.ref b] s) (F0 m 18 ls [])) : W p l e room_1 s m #[Value.ref b] below meth c H locs 90 348600 (lw_Z below #[Value.ref b] s) (F0 m 549 ls []) := by
  obtain ⟨hx, hb, hr, hml, hown, hts0, hX, hbl, hlocks, hgv⟩ := C0
  have hts : ∀ w ∈ wsL_law, w.before #[Value.ref b] s = true := fun w h => hts0 w (wsL_law_in w h)
  have hbA : ¬ (fun q : Nat => s.heap.size ≤ q) b := Nat.not_le.mpr hbl
  have hown : s.vm.findClass RL = some m.cls := hown
  obtain ⟨hI2, hI9, hI12, hI16, hI18, hI22, hI31, hI38, hI43, hI47, hI50, hI101, hI102, hI103, hI104, hI105, hI106, hI107, hI109, hI110, hI111, hI119, hs_jKept, hs_jBook, ht0, ht1, ht2, ht3, ht4, ht5, ht6, ht7, ht8, ht9, ht10, ht11, hr0, hr1, hr2, hr3, hr4, hr5, hr6, hr7, hr8, hr9⟩ := hAll
  have hL9 : (L : Int) ≤ 384 := by omega
  obtain ⟨i1, i2, i3, i4, i5, w6⟩ : (0 ≤ (σ 2 0).toInt ∧ (σ 2 0).toInt ≤ 4) ∧ (0 ≤ (σ 2 1).toInt ∧ (σ 2 1).toInt ≤ 3) ∧ (0 ≤ (σ 2 2).toInt) ∧ (0 ≤ (σ 2 3).toInt) ∧ ((σ 2 2).toInt + (σ 2 3).toInt ≤ 40) ∧ (∀ k : Nat, k < 40 → 0 ≤ (σ 6 k).toInt ∧ (σ 6 k).toInt ≤ 67) := id hI2
  obtain ⟨i7, w8, w9⟩ : (0 ≤ (σ 9 0).toInt ∧ (σ 9 0).toInt ≤ 80) ∧ (∀ k : Nat, k < 80 → 0 ≤ (σ 10 k).toInt ∧ (σ 10 k).toInt ≤ 255) ∧ (∀ k : Nat, k < 8 → 0 ≤ (σ 11 k).toInt ∧ (σ 11 k).toInt ≤ 3) := id hI9
  obtain ⟨i10, i11, i12, w13⟩ : (1 ≤ (σ 16 0).toInt ∧ (σ 16 0).toInt ≤ 8) ∧ (1 ≤ (σ 16 1).toInt ∧ (σ 16 1).toInt ≤ 12) ∧ (0 ≤ (σ 16 2).toInt ∧ (σ 16 2).toInt ≤ 999) ∧ (∀ k : Nat, k < 8 → 0 ≤ (σ 17 k).toInt ∧ (σ 17 k).toInt ≤ 3) := id hI16
  obtain ⟨i14, i15, w16⟩ : (0 ≤ (σ 38 0).toInt ∧ (σ 38 0).toInt ≤ 20) ∧ (0 ≤ (σ 38 1).toInt ∧ (σ 38 1).toInt ≤ 1000) ∧ (∀ k : Nat, k < 20 → 0 ≤ (σ 39 k).toInt ∧ (σ 39 k).toInt ≤ 6) := id hI38
  obtain ⟨i17, w18, w19⟩ : (0 ≤ (σ 47 0).toInt ∧ (σ 47 0).toInt ≤ 12) ∧ (∀ k : Nat, k < 12 → 0 ≤ (σ 48 k).toInt ∧ (σ 48 k).toInt ≤ 3) ∧ (∀ k : Nat, k < 12 → 0 ≤ (σ 49 k).toInt ∧ (σ 49 k).toInt ≤ 1) := id hI47
  have w20 : ∀ k : Nat, k < 6 → 0 ≤ (σ 52 k).toInt ∧ (σ 52 k).toInt ≤ 60 := hI50
  obtain ⟨i21, i22, i23, w24, w25, w26, w27⟩ : (0 ≤ (σ 55 5).toInt) ∧ ((σ 55 5).toInt ≤ (σ 55 4).toInt) ∧ ((σ 55 4).toInt ≤ 40) ∧ (∀ k : Nat, k < 68 → (-200) ≤ (σ 56 k).toInt ∧ (σ 56 k).toInt ≤ 500) ∧ (∀ k : Nat, k < 40 → 0 ≤ (σ 57 k).toInt ∧ (σ 57 k).toInt ≤ 67) ∧ (∀ k : Nat, k < 40 → (-200) ≤ (σ 58 k).toInt ∧ (σ 58 k).toInt ≤ 500) ∧ (∀ k : Nat, k < 40 → (-200) ≤ (σ 59 k).toInt ∧ (σ 59 k).toInt ≤ 500) := id hI101
  obtain ⟨i28, w29, w30⟩ : (0 ≤ (σ 55 6).toInt ∧ (σ 55 6).toInt ≤ 4) ∧ (∀ k : Nat, k < 4 → 0 ≤ (σ 60 k).toInt ∧ (σ 60 k).toInt ≤ 50) ∧ (∀ k : Nat, k < 4 → 0 ≤ (σ 61 k).toInt ∧ (σ 61 k).toInt ≤ 20) := id hI102
  obtain ⟨i31, i32, i33, w34, w35⟩ : (1 ≤ (σ 55 10).toInt ∧ (σ 55 10).toInt ≤ 8) ∧ (1 ≤ (σ 55 12).toInt ∧ (σ 55 12).toInt ≤ 12) ∧ (0 ≤ (σ 55 13).toInt ∧ (σ 55 13).toInt ≤ 999) ∧ (∀ k : Nat, k < 8 → 0 ≤ (σ 62 k).toInt ∧ (σ 62 k).toInt ≤ 3) ∧ (∀ k : Nat, k < 8 → 0 ≤ (σ 67 k).toInt ∧ (σ 67 k).toInt ≤ 3) := id hI104
  obtain ⟨i36, w37⟩ : (0 ≤ (σ 55 15).toInt ∧ (σ 55 15).toInt ≤ 80) ∧ (∀ k : Nat, k < 2 → (-1) ≤ (σ 65 k).toInt ∧ (σ 65 k).toInt ≤ 80) := id hI105
  obtain ⟨i38, w39, w40, w41⟩ : (0 ≤ (σ 55 32).toInt ∧ (σ 55 32).toInt ≤ 20) ∧ (∀ k : Nat, k < 20 → 0 ≤ (σ 70 k).toInt ∧ (σ 70 k).toInt ≤ 6) ∧ (∀ k : Nat, k < 20 → 0 ≤ (σ 71 k).toInt ∧ (σ 71 k).toInt ≤ 8) ∧ (∀ k : Nat, k < 160 → 0 ≤ (σ 72 k).toInt ∧ (σ 72 k).toInt ≤ 3) := id hI106
  obtain ⟨i42, i43, w44⟩ : (0 ≤ (σ 55 47).toInt ∧ (σ 55 47).toInt ≤ 12) ∧ ((σ 55 47).toInt ≤ (σ 55 12).toInt) ∧ (∀ k : Nat, k < 12 → 0 ≤ (σ 80 k).toInt ∧ (σ 80 k).toInt ≤ 3) := id hI107
  refine lv_aload_n hx hb dL_law_549 rfl (lv_at hl 2 rfl) ?_
  refine lv_aload_n hx hb dL_law_550 rfl (lv_at hl 3 rfl) ?_
  refine lv_iload_n hx hb dL_law_551 rfl (lv_at hl 0 rfl) ?_
  refine lv_iconst (v := 1) hx hb dL_law_552 (of_decide_eq_true rfl) ?_
  have g45 := jrg (rfl : x0.toInt = x0.toInt)
  refine lv_iadd hx hb dL_law_553 ?_
  refine lv_topi (fun x46 ex46 => ?_)
  exact by
   have tx46 : x46.toInt = x0.toInt + 1 := (jadd ex46 rfl jz_1 (by omega) (by omega)).trans (by omega)
   refine va_sld hx hb hX hbl hbA hS (jin tx46 (by omega) (by omega)) dL_law_554 ?_
   have g47 := jrg (rfl : (xs x46.toNatClampNeg).toInt = (xs x46.toNatClampNeg).toInt)
   refine jcallV (As := [.int (xs x46.toNatClampNeg)]) (rest := []) ⟨hx, hb, hml, hown, hts⟩ hK hP hA hS hZ (c_X11_mean l D cI cL ad zz hJ σ τ (xs x46.toNatClampNeg) ((xs x46.toNatClampNeg).toInt) rfl hI2 hI16 hI18 hI22 hI31 hI38) cw_RL_61 (jc_0 cI cL ad σ τ) rfl ⟨Nat.le_of_ble_eq_true rfl, Nat.le_of_ble_eq_true rfl⟩ rfl rfl rfl hl.1 rfl (Nat.le_of_ble_eq_true rfl) dL_law_555 ⟨Nat.le_of_ble_eq_true rfl, Nat.le_of_ble_eq_true rfl⟩ (fun r49 σ48 τ48 H locs h48 hP hS => ?_)
   obtain ⟨rfl, f50, f51, I52, h48⟩ := h48
   refine lv_pop hx hb dL_law_558 rfl ?_
   refine lv_aload_n hx hb dL_law_559 rfl (lv_at hl 1 rfl) ?_
   refine lv_aload_n hx hb dL_law_560 rfl (lv_at hl 3 rfl) ?_
   refine lv_iload_n hx hb dL_law_561 rfl (lv_at hl 0 rfl) ?_
   exact by
    refine lv_iconst (v := 1) hx hb dL_law_562 (of_decide_eq_true rfl) ?_
    refine lv_iadd hx hb dL_law_563 ?_
    refine jtopr ex46.symm ?_
    refine va_sld hx hb hX hbl hbA hS (jin tx46 (by omega) (by omega)) dL_law_564 ?_
    have I54 : jI101 σ48 := jI101_fr (congrFun (f50 55 (of_decide_eq_true rfl)) 4) (congrFun (f50 55 (of_decide_eq_true rfl)) 5) (f50 56 (of_decide_eq_true rfl)) (f50 57 (of_decide_eq_true rfl)) (f50 58 (of_decide_eq_true rfl)) (f50 59 (of_decide_eq_true rfl)) hI101
    have I55 : jI102 σ48 := jI102_fr (congrFun (f50 55 (of_decide_eq_true rfl)) 6) (f50 60 (of_decide_eq_true rfl)) (f50 61 (of_decide_eq_true rfl)) hI102
    have I56 : jI103 σ48 := jI103_fr (congrFun (f50 55 (of_decide_eq_true rfl)) 9) hI103
    have I57 : jI104 σ48 := jI104_fr (congrFun (f50 55 (of_decide_eq_true rfl)) 10) (congrFun (f50 55 (of_decide_eq_true rfl)) 12) (congrFun (f50 55 (of_decide_eq_true rfl)) 13) (f50 62 (of_decide_eq_true rfl)) (f50 67 (of_decide_eq_true rfl)) hI104
    have I58 : jI105 σ48 := jI105_fr (congrFun (f50 55 (of_decide_eq_true rfl)) 15) (f50 65 (of_decide_eq_true rfl)) hI105
    exact by
     have I59 : jI106 σ48 := jI106_fr (congrFun (f50 55 (of_decide_eq_true rfl)) 32) (f50 70 (of_decide_eq_true rfl)) (f50 71 (of_decide_eq_true rfl)) (f50 72 (of_decide_eq_true rfl)) hI106
     have I60 : jI119 σ48 := jI119_fr (f50 68 (of_decide_eq_true rfl)) hI119
     have p61 : jKept σ48 := jKept.fr (f50 75 (of_decide_eq_true rfl)) (f50 76 (of_decide_eq_true rfl)) (f50 77 (of_decide_eq_true rfl)) hs_jKept
     refine jcallV (As := [.int (xs x46.toNatClampNeg)]) (rest := []) ⟨hx, hb, hml, hown, hts⟩ hK hP hA hS hZ (c_X12_mean l D cI cL ad zz hJ σ48 τ (xs x46.toNatClampNeg) ((xs x46.toNatClampNeg).toInt) rfl I54 I55 I56 I57 I58 I59 I60 p61) cw_RL_64 (jc_55 cI cL ad σ48 τ) rfl ⟨Nat.le_of_ble_eq_true rfl, Nat.le_of_ble_eq_true rfl⟩ rfl rfl rfl hl.1 rfl (Nat.le_of_ble_eq_true rfl) dL_law_565 ⟨Nat.le_of_ble_eq_true rfl, Nat.le_of_ble_eq_true rfl⟩ (fun r63 σ62 τ62 H locs h62 hP hS => ?_)
     obtain ⟨rfl, f64, f65, I66, p67, h62⟩ := h62
     refine lv_pop hx hb dL_law_568 rfl ?_
     refine lv_goto (tgt := 1357) hx hb dL_law_569 (of_decide_eq_true rfl) ?_
     obtain ⟨x69, ex69⟩ : ∃ y : Int32, y = x0 + 6 := ⟨_, rfl⟩
     have tx69 : x69.toInt = x0.toInt + 6 := (jadd ex69 rfl jz_6 (by omega) (by omega)).trans (by omega)
     exact by
      refine lv_iinc (v := x69) (lv' := [(3, .int x69), (2, .ref (ad 55)), (1, .ref (ad 0)), (0, .ref b)]) hx hb dL_law_1357 hl (k := 0) rfl (by rw [ex69]; rfl) (of_decide_eq_true rfl) rfl (fun ls hl => ?_)
      refine lv_goto (tgt := 18) hx hb dL_law_1360 (of_decide_eq_true rfl) ?_
      have I70 : jI2 σ62 := jI2_fr ((congrFun (f64 2 (of_decide_eq_true rfl)) 0).trans (congrFun (f50 2 (of_decide_eq_true rfl)) 0)) ((congrFun (f64 2 (of_decide_eq_true rfl)) 1).trans (congrFun (f50 2 (of_decide_eq_true rfl)) 1)) ((congrFun (f64 2 (of_decide_eq_true rfl)) 2).trans (congrFun (f50 2 (of_decide_eq_true rfl)) 2)) ((congrFun (f64 2 (of_decide_eq_true rfl)) 3).trans (congrFun (f50 2 (of_decide_eq_true rfl)) 3)) ((f64 6 (of_decide_eq_true rfl)).trans (f50 6 (of_decide_eq_true rfl))) hI2
      have I71 : jI9 σ62 := jI9_fr ((congrFun (f64 9 (of_decide_eq_true rfl)) 0).trans (congrFun (f50 9 (of_decide_eq_true rfl)) 0)) ((f64 10 (of_decide_eq_true rfl)).trans (f50 10 (of_decide_eq_true rfl))) ((f64 11 (of_decide_eq_true rfl)).trans (f50 11 (of_decide_eq_true rfl))) hI9
      have I72 : jI12 σ62 := jI12_fr ((congrFun (f64 12 (of_decide_eq_true rfl)) 0).trans (congrFun (f50 12 (of_decide_eq_true rfl)) 0)) ((f64 13 (of_decide_eq_true rfl)).trans (f50 13 (of_decide_eq_true rfl))) hI12
      have I73 : jI16 σ62 := jI16_fr ((congrFun (f64 16 (of_decide_eq_true rfl)) 0).trans (congrFun (f50 16 (of_decide_eq_true rfl)) 0)) ((congrFun (f64 16 (of_decide_eq_true rfl)) 1).trans (congrFun (f50 16 (of_decide_eq_true rfl)) 1)) ((congrFun (f64 16 (of_decide_eq_true rfl)) 2).trans (congrFun (f50 16 (of_decide_eq_true rfl)) 2)) ((f64 17 (of_decide_eq_true rfl)).trans (f50 17 (of_decide_eq_true rfl))) hI16
      have I74 : jI18 σ62 := jI18_fr ((congrFun (f64 18 (of_decide_eq_true rfl)) 0).trans (congrFun (f50 18 (of_decide_eq_true rfl)) 0)) ((f64 19 (of_decide_eq_true rfl)).trans (f50 19 (of_decide_eq_true rfl))) hI18
      have I75 : jI22 σ62 := jI22_fr ((congrFun (f64 22 (of_decide_eq_true rfl)) 0).trans (congrFun (f50 22 (of_decide_eq_true rfl)) 0)) ((f64 23 (of_decide_eq_true rfl)).trans (f50 23 (of_decide_eq_true rfl))) hI22
      have I76 : jI31 σ62 := jI31_fr (congrFun (f64 31 (of_decide_eq_true rfl)) 8) (f64 33 (of_decide_eq_true rfl)) (f64 36 (of_decide_eq_true rfl)) I52
      have I77 : jI38 σ62 := jI38_fr ((congrFun (f64 38 (of_decide_eq_true rfl)) 0).trans (congrFun (f50 38 (of_decide_eq_true rfl)) 0)) ((congrFun (f64 38 (of_decide_eq_true rfl)) 1).trans (congrFun (f50 38 (of_decide_eq_true rfl)) 1)) ((f64 39 (of_decide_eq_true rfl)).trans (f50 39 (of_decide_eq_true rfl))) hI38
      have I78 : jI43 σ62 := jI43_fr ((congrFun (f64 43 (of_decide_eq_true rfl)) 8).trans (congrFun (f50 43 (of_decide_eq_true rfl)) 8)) hI43
      have I79 : jI47 σ62 := jI47_fr ((congrFun (f64 47 (of_decide_eq_true rfl)) 0).trans (congrFun (f50 47 (of_decide_eq_true rfl)) 0)) ((f64 48 (of_decide_eq_true rfl)).trans (f50 48 (of_decide_eq_true rfl))) ((f64 49 (of_decide_eq_true rfl)).trans (f50 49 (of_decide_eq_true rfl))) hI47
      have I80 : jI50 σ62 := jI50_fr ((f64 52 (of_decide_eq_true rfl)).trans (f50 52 (of_decide_eq_true rfl))) hI50
      have I81 : jI101 σ62 := jI101_fr (f65 4 (of_decide_eq_true rfl)) (f65 5 (of_decide_eq_true rfl)) (f64 56 (of_decide_eq_true rfl)) (f64 57 (of_decide_eq_true rfl)) (f64 58 (of_decide_eq_true rfl)) (f64 59 (of_decide_eq_true rfl)) I54
      have I82 : jI102 σ62 := jI102_fr (f65 6 (of_decide_eq_true rfl)) (f64 60 (of_decide_eq_true rfl)) (f64 61 (of_decide_eq_true rfl)) I55
      have I83 : jI103 σ62 := jI103_fr (f65 9 (of_decide_eq_true rfl)) I56
      have I84 : jI104 σ62 := jI104_fr (f65 10 (of_decide_eq_true rfl)) (f65 12 (of_decide_eq_true rfl)) (f65 13 (of_decide_eq_true rfl)) (f64 62 (of_decide_eq_true rfl)) (f64 67 (of_decide_eq_true rfl)) I57
      have I85 : jI105 σ62 := jI105_fr (f65 15 (of_decide_eq_true rfl)) (f64 65 (of_decide_eq_true rfl)) I58
      have I86 : jI106 σ62 := jI106_fr (f65 32 (of_decide_eq_true rfl)) (f64 70 (of_decide_eq_true rfl)) (f64 71 (of_decide_eq_true rfl)) (f64 72 (of_decide_eq_true rfl)) I59
      have I87 : jI107 σ62 := jI107_fr ((f65 12 (of_decide_eq_true rfl)).trans (congrFun (f50 55 (of_decide_eq_true rfl)) 12)) ((f65 47 (of_decide_eq_true rfl)).trans (congrFun (f50 55 (of_decide_eq_true rfl)) 47)) ((f64 80 (of_decide_eq_true rfl)).trans (f50 80 (of_decide_eq_true rfl))) hI107
      have I88 : jI109 σ62 := jI109_fr ((f65 50 (of_decide_eq_true rfl)).trans (congrFun (f50 55 (of_decide_eq_true rfl)) 50)) hI109
      have I89 : jI110 σ62 := jI110_fr ((f64 86 (of_decide_eq_true rfl)).trans (f50 86 (of_decide_eq_true rfl))) ((f64 87 (of_decide_eq_true rfl)).trans (f50 87 (of_decide_eq_true rfl))) hI110
      have I90 : jI111 σ62 := jI111_fr ((f64 79 (of_decide_eq_true rfl)).trans (f50 79 (of_decide_eq_true rfl))) hI111
      have p91 : jBook σ62 := jBook.fr ((f65 47 (of_decide_eq_true rfl)).trans (congrFun (f50 55 (of_decide_eq_true rfl)) 47)) ((f65 10 (of_decide_eq_true rfl)).trans (congrFun (f50 55 (of_decide_eq_true rfl)) 10)) ((f64 81 (of_decide_eq_true rfl)).trans (f50 81 (of_decide_eq_true rfl))) hs_jBook
      have z92 : (σ62 2 0).toInt = (σ 2 0).toInt := (congrArg Int32.toInt (show σ62 2 0 = (σ 2 0) from ((congrFun (f64 2 (of_decide_eq_true rfl)) 0).trans (congrFun (f50 2 (of_decide_eq_true rfl)) 0))))
      have z93 : (σ62 55 6).toInt = (σ 55 6).toInt := (congrArg Int32.toInt (show σ62 55 6 = (σ 55 6) from ((f65 6 (of_decide_eq_true rfl)).trans (congrFun (f50 55 (of_decide_eq_true rfl)) 6))))
      have z94 : (σ62 2 2).toInt = (σ 2 2).toInt := (congrArg Int32.toInt (show σ62 2 2 = (σ 2 2) from ((congrFun (f64 2 (of_decide_eq_true rfl)) 2).trans (congrFun (f50 2 (of_decide_eq_true rfl)) 2))))
      have z95 : (σ62 55 5).toInt = (σ 55 5).toInt := (congrArg Int32.toInt (show σ62 55 5 = (σ 55 5) from ((f65 5 (of_decide_eq_true rfl)).trans (congrFun (f50 55 (of_decide_eq_true rfl)) 5))))
      have z96 : (σ62 2 3).toInt = (σ 2 3).toInt := (congrArg Int32.toInt (show σ62 2 3 = (σ 2 3) from ((congrFun (f64 2 (of_decide_eq_true rfl)) 3).trans (congrFun (f50 2 (of_decide_eq_true rfl)) 3))))
      have z97 : (σ62 55 4).toInt = (σ 55 4).toInt := (congrArg Int32.toInt (show σ62 55 4 = (σ 55 4) from ((f65 4 (of_decide_eq_true rfl)).trans (congrFun (f50 55 (of_decide_eq_true rfl)) 4))))
      have z98 : (σ62 9 0).toInt = (σ 9 0).toInt := (congrArg Int32.toInt (show σ62 9 0 = (σ 9 0) from ((congrFun (f64 9 (of_decide_eq_true rfl)) 0).trans (congrFun (f50 9 (of_decide_eq_true rfl)) 0))))
      have z99 : (σ62 55 15).toInt = (σ 55 15).toInt := (congrArg Int32.toInt (show σ62 55 15 = (σ 55 15) from ((f65 15 (of_decide_eq_true rfl)).trans (congrFun (f50 55 (of_decide_eq_true rfl)) 15))))
      have z100 : (σ62 16 0).toInt = (σ 16 0).toInt := (congrArg Int32.toInt (show σ62 16 0 = (σ 16 0) from ((congrFun (f64 16 (of_decide_eq_true rfl)) 0).trans (congrFun (f50 16 (of_decide_eq_true rfl)) 0))))
      have z101 : (σ62 55 10).toInt = (σ 55 10).toInt := (congrArg Int32.toInt (show σ62 55 10 = (σ 55 10) from ((f65 10 (of_decide_eq_true rfl)).trans (congrFun (f50 55 (of_decide_eq_true rfl)) 10))))
      have z102 : (σ62 16 1).toInt = (σ 16 1).toInt := (congrArg Int32.toInt (show σ62 16 1 = (σ 16 1) from ((congrFun (f64 16 (of_decide_eq_true rfl)) 1).trans (congrFun (f50 16 (of_decide_eq_true rfl)) 1))))
      have z103 : (σ62 55 12).toInt = (σ 55 12).toInt := (congrArg Int32.toInt (show σ62 55 12 = (σ 55 12) from ((f65 12 (of_decide_eq_true rfl)).trans (congrFun (f50 55 (of_decide_eq_true rfl)) 12))))
      have z104 : (σ62 16 2).toInt = (σ 16 2).toInt := (congrArg Int32.toInt (show σ62 16 2 = (σ 16 2) from ((congrFun (f64 16 (of_decide_eq_true rfl)) 2).trans (congrFun (f50 16 (of_decide_eq_true rfl)) 2))))
      have z105 : (σ62 55 13).toInt = (σ 55 13).toInt := (congrArg Int32.toInt (show σ62 55 13 = (σ 55 13) from ((f65 13 (of_decide_eq_true rfl)).trans (congrFun (f50 55 (of_decide_eq_true rfl)) 13))))
      have z106 : (σ62 38 0).toInt = (σ 38 0).toInt := (congrArg Int32.toInt (show σ62 38 0 = (σ 38 0) from ((congrFun (f64 38 (of_decide_eq_true rfl)) 0).trans (congrFun (f50 38 (of_decide_eq_true rfl)) 0))))
      have z107 : (σ62 55 32).toInt = (σ 55 32).toInt := (congrArg Int32.toInt (show σ62 55 32 = (σ 55 32) from ((f65 32 (of_decide_eq_true rfl)).trans (congrFun (f50 55 (of_decide_eq_true rfl)) 32))))
      have z108 : (σ62 38 1).toInt = (σ 38 1).toInt := (congrArg Int32.toInt (show σ62 38 1 = (σ 38 1) from ((congrFun (f64 38 (of_decide_eq_true rfl)) 1).trans (congrFun (f50 38 (of_decide_eq_true rfl)) 1))))
      have z109 : (σ62 55 55).toInt = (σ 55 55).toInt := (congrArg Int32.toInt (show σ62 55 55 = (σ 55 55) from ((f65 55 (of_decide_eq_true rfl)).trans (congrFun (f50 55 (of_decide_eq_true rfl)) 55))))
      have z110 : (σ62 47 0).toInt = (σ 47 0).toInt := (congrArg Int32.toInt (show σ62 47 0 = (σ 47 0) from ((congrFun (f64 47 (of_decide_eq_true rfl)) 0).trans (congrFun (f50 47 (of_decide_eq_true rfl)) 0))))
      have z111 : (σ62 55 47).toInt = (σ 55 47).toInt := (congrArg Int32.toInt (show σ62 55 47 = (σ 55 47) from ((f65 47 (of_decide_eq_true rfl)).trans (congrFun (f50 55 (of_decide_eq_true rfl)) 47))))
      have z112 : (σ62 55 30).toInt = (σ 55 30).toInt := (congrArg Int32.toInt (show σ62 55 30 = (σ 55 30) from ((f65 30 (of_decide_eq_true rfl)).trans (congrFun (f50 55 (of_decide_eq_true rfl)) 30))))
      have z113 : (σ62 55 31).toInt = (σ 55 31).toInt := (congrArg Int32.toInt (show σ62 55 31 = (σ 55 31) from ((f65 31 (of_decide_eq_true rfl)).trans (congrFun (f50 55 (of_decide_eq_true rfl)) 31))))
      exact by exact ih x69 σ62 τ _ _ ls (by have h9 := tx69; omega) ⟨I70, I71, I72, I73, I74, I75, I76, I77, I78, I79, I80, I81, I82, I83, I84, I85, I86, I87, I88, I89, I90, I66, p67, p91, (by omega), (by omega), (by omega), (by omega), (by omega), (by omega), (by omega), (by omega), (by omega), (by omega), (by omega), (by omega), (show jNumP (σ62 3) (σ62 56) (σ62 6) (σ62 57) (σ62 7) (σ62 58) (σ62 8) (σ62 59) (σ62 55 6).toInt (σ62 55 4).toInt by rw [show σ62 3 = σ 3 from ((f64 3 (of_decide_eq_true rfl)).trans (f50 3 (of_decide_eq_true rfl))), show σ62 56 = σ 56 from ((f64 56 (of_decide_eq_true rfl)).trans (f50 56 (of_decide_eq_true rfl))), show σ62 6 = σ 6 from ((f64 6 (of_decide_eq_true rfl)).trans (f50 6 (of_decide_eq_true rfl))), show σ62 57 = σ 57 from ((f64 57 (of_decide_eq_true rfl)).trans (f50 57 (of_decide_eq_true rfl))), show σ62 7 = σ 7 from ((f64 7 (of_decide_eq_true rfl)).trans (f50 7 (of_decide_eq_true rfl))), show σ62 58 = σ 58 from ((f64 58 (of_decide_eq_true rfl)).trans (f50 58 (of_decide_eq_true rfl))), show σ62 8 = σ 8 from ((f64 8 (of_decide_eq_true rfl)).trans (f50 8 (of_decide_eq_true rfl))), show σ62 59 = σ 59 from ((f64 59 (of_decide_eq_true rfl)).trans (f50 59 (of_decide_eq_true rfl))), show (σ62 55 6).toInt = (σ 55 6).toInt from by omega, show (σ62 55 4).toInt = (σ 55 4).toInt from by omega]; exact hr0), (show jOvP (σ62 56) (σ62 57) (σ62 58) (σ62 59) (σ62 55 4).toInt by rw [show σ62 56 = σ 56 from ((f64 56 (of_decide_eq_true rfl)).trans (f50 56 (of_decide_eq_true rfl))), show σ62 57 = σ 57 from ((f64 57 (of_decide_eq_true rfl)).trans (f50 57 (of_decide_eq_true rfl))), show σ62 58 = σ 58 from ((f64 58 (of_decide_eq_true rfl)).trans (f50 58 (of_decide_eq_true rfl))), show σ62 59 = σ 59 from ((f64 59 (of_decide_eq_true rfl)).trans (f50 59 (of_decide_eq_true rfl))), show (σ62 55 4).toInt = (σ 55 4).toInt from by omega]; exact hr1), (show jTp (σ62 10) (σ62 63) (σ62 55 15).toInt by rw [show σ62 10 = σ 10 from ((f64 10 (of_decide_eq_true rfl)).trans (f50 10 (of_decide_eq_true rfl))), show σ62 63 = σ 63 from ((f64 63 (of_decide_eq_true rfl)).trans (f50 63 (of_decide_eq_true rfl)))]; exact hr2.le (by omega)), (show jSo (σ62 17) (σ62 62) (σ62 16 0).toInt by rw [show σ62 17 = σ 17 from ((f64 17 (of_decide_eq_true rfl)).trans (f50 17 (of_decide_eq_true rfl))), show σ62 62 = σ 62 from ((f64 62 (of_decide_eq_true rfl)).trans (f50 62 (of_decide_eq_true rfl))), show (σ62 16 0).toInt = (σ 16 0).toInt from by omega]; exact hr3), (show jShP (σ62 51) (σ62 52) (σ62 53) (σ62 86) (σ62 87) (σ62 55 32).toInt by rw [show σ62 51 = σ 51 from ((f64 51 (of_decide_eq_true rfl)).trans (f50 51 (of_decide_eq_true rfl))), show σ62 52 = σ 52 from ((f64 52 (of_decide_eq_true rfl)).trans (f50 52 (of_decide_eq_true rfl))), show σ62 53 = σ 53 from ((f64 53 (of_decide_eq_true rfl)).trans (f50 53 (of_decide_eq_true rfl))), show σ62 86 = σ 86 from ((f64 86 (of_decide_eq_true rfl)).trans (f50 86 (of_decide_eq_true rfl))), show σ62 87 = σ 87 from ((f64 87 (of_decide_eq_true rfl)).trans (f50 87 (of_decide_eq_true rfl)))]; exact (hr4.up (by omega) (by omega))), (show jEl (σ62 51) (σ62 52) (τ 54) (τ 88) by rw [show σ62 51 = σ 51 from ((f64 51 (of_decide_eq_true rfl)).trans (f50 51 (of_decide_eq_true rfl))), show σ62 52 = σ 52 from ((f64 52 (of_decide_eq_true rfl)).trans (f50 52 (of_decide_eq_true rfl)))]; exact hr5), (show jByP (σ62 51) (σ62 52) (τ 54) by rw [show σ62 51 = σ 51 from ((f64 51 (of_decide_eq_true rfl)).trans (f50 51 (of_decide_eq_true rfl))), show σ62 52 = σ 52 from ((f64 52 (of_decide_eq_true rfl)).trans (f50 52 (of_decide_eq_true rfl)))]; exact hr6), (show jBk (σ62 48) (σ62 80) (σ62 49) (σ62 81) (σ62 55 47).toInt by rw [show σ62 48 = σ 48 from ((f64 48 (of_decide_eq_true rfl)).trans (f50 48 (of_decide_eq_true rfl))), show σ62 49 = σ 49 from ((f64 49 (of_decide_eq_true rfl)).trans (f50 49 (of_decide_eq_true rfl))), show σ62 80 = σ 80 from ((f64 80 (of_decide_eq_true rfl)).trans (f50 80 (of_decide_eq_true rfl))), show σ62 81 = σ 81 from ((f64 81 (of_decide_eq_true rfl)).trans (f50 81 (of_decide_eq_true rfl))), show (σ62 55 47).toInt = (σ 55 47).toInt from by omega]; exact hr7), (show jKd (σ62 39) (σ62 70) (σ62 55 32).toInt by rw [show σ62 39 = σ 39 from ((f64 39 (of_decide_eq_true rfl)).trans (f50 39 (of_decide_eq_true rfl))), show σ62 70 = σ 70 from ((f64 70 (of_decide_eq_true rfl)).trans (f50 70 (of_decide_eq_true rfl))), show (σ62 55 32).toInt = (σ 55 32).toInt from by omega]; exact hr8), (show jTt (σ62 42) (σ62 85) (σ62 55 55).toInt by rw [show σ62 42 = σ 42 from ((f64 42 (of_decide_eq_true rfl)).trans (f50 42 (of_decide_eq_true rfl))), show σ62 85 = σ 85 from ((f64 85 (of_decide_eq_true rfl)).trans (f50 85 (of_decide_eq_true rfl))), show (σ62 55 55).toInt = (σ 55 55).toInt from by omega]; exact hr9)⟩ hP hS (lv_sub hl [0, 1, 2, 3] rfl)
set_option maxHeartbeats 4000000 in
set_option maxRecDepth 100000 in
theorem law_case_12 {p : Program} {e : Env} {s : State} {m : MethodId} {below : List Frame} {meth : Method} {c : Code} (l : Launch) {b L : Nat} {xs : Nat → Int32} {D : va_G} {cI cL : ClassId} {ad zz : Nat → Nat} (C0 : lw_At p s m meth c b L xs) (hJ : jD ad) (hA : ∀ q, jA ad q → s.heap.size ≤ q) (hK : jK D cI cL s) (hZ : jZ zz (fun q : Nat => s.heap.size ≤ q) s s.heap) {x0 : Int32} (hx0 : 0 ≤ x0.toInt) (hxL : x0.toInt + 6 ≤ (L : Int)) (hL : L ≤ 384) {σ : Nat → Nat → Int32} {τ : Nat → Nat → Int64} {H : Heap} {locs : List Loc} (hS : va_S (fun q : Nat => s.heap.size ≤ q) s.heap H locs) {ls : Array Slot} (hAll : jAll σ τ) (hP : jH D cI cL ad σ τ H) (hl : lv_has ls 4 [(3, .int x0), (2, .ref (ad 55)), (1, .ref (ad 0)), (0, .ref b)]) (ih : ∀ (x1 : Int32) (σ : Nat → Nat → Int32) (τ : Nat → Nat → Int64) (H : Heap) (locs : List Loc) (ls : Array Slot), x1.toInt = x0.toInt + 6 → jAll σ τ → jH D cI cL ad σ τ H → va_S (fun q : Nat => s.heap.size ≤ q) s.heap H locs → lv_has ls 4 [(3, .int x1), (2, .ref (ad 55)), (1, .ref (ad 0)), (0, .ref b)] → W p l e room_1 s m #[Value.ref b] below meth c H locs 90 348600 (lw_Z below #[Value.ref b] s) (F0 m 18 ls [])) : W p l e room_1 s m #[Value.ref b] below meth c H locs 90 348600 (lw_Z below #[Value.ref b] s) (F0 m 572 ls []) := by
  obtain ⟨hx, hb, hr, hml, hown, hts0, hX, hbl, hlocks, hgv⟩ := C0
  have hts : ∀ w ∈ wsL_law, w.before #[Value.ref b] s = true := fun w h => hts0 w (wsL_law_in w h)
  have hbA : ¬ (fun q : Nat => s.heap.size ≤ q) b := Nat.not_le.mpr hbl
  have hown : s.vm.findClass RL = some m.cls := hown
  obtain ⟨hI2, hI9, hI12, hI16, hI18, hI22, hI31, hI38, hI43, hI47, hI50, hI101, hI102, hI103, hI104, hI105, hI106, hI107, hI109, hI110, hI111, hI119, hs_jKept, hs_jBook, ht0, ht1, ht2, ht3, ht4, ht5, ht6, ht7, ht8, ht9, ht10, ht11, hr0, hr1, hr2, hr3, hr4, hr5, hr6, hr7, hr8, hr9⟩ := hAll
  have hL9 : (L : Int) ≤ 384 := by omega
  obtain ⟨i1, i2, i3, i4, i5, w6⟩ : (0 ≤ (σ 2 0).toInt ∧ (σ 2 0).toInt ≤ 4) ∧ (0 ≤ (σ 2 1).toInt ∧ (σ 2 1).toInt ≤ 3) ∧ (0 ≤ (σ 2 2).toInt) ∧ (0 ≤ (σ 2 3).toInt) ∧ ((σ 2 2).toInt + (σ 2 3).toInt ≤ 40) ∧ (∀ k : Nat, k < 40 → 0 ≤ (σ 6 k).toInt ∧ (σ 6 k).toInt ≤ 67) := id hI2
  obtain ⟨i7, w8, w9⟩ : (0 ≤ (σ 9 0).toInt ∧ (σ 9 0).toInt ≤ 80) ∧ (∀ k : Nat, k < 80 → 0 ≤ (σ 10 k).toInt ∧ (σ 10 k).toInt ≤ 255) ∧ (∀ k : Nat, k < 8 → 0 ≤ (σ 11 k).toInt ∧ (σ 11 k).toInt ≤ 3) := id hI9
  obtain ⟨i10, i11, i12, w13⟩ : (1 ≤ (σ 16 0).toInt ∧ (σ 16 0).toInt ≤ 8) ∧ (1 ≤ (σ 16 1).toInt ∧ (σ 16 1).toInt ≤ 12) ∧ (0 ≤ (σ 16 2).toInt ∧ (σ 16 2).toInt ≤ 999) ∧ (∀ k : Nat, k < 8 → 0 ≤ (σ 17 k).toInt ∧ (σ 17 k).toInt ≤ 3) := id hI16
  obtain ⟨i14, i15, w16⟩ : (0 ≤ (σ 38 0).toInt ∧ (σ 38 0).toInt ≤ 20) ∧ (0 ≤ (σ 38 1).toInt ∧ (σ 38 1).toInt ≤ 1000) ∧ (∀ k : Nat, k < 20 → 0 ≤ (σ 39 k).toInt ∧ (σ 39 k).toInt ≤ 6) := id hI38
  obtain ⟨i17, w18, w19⟩ : (0 ≤ (σ 47 0).toInt ∧ (σ 47 0).toInt ≤ 12) ∧ (∀ k : Nat, k < 12 → 0 ≤ (σ 48 k).toInt ∧ (σ 48 k).toInt ≤ 3) ∧ (∀ k : Nat, k < 12 → 0 ≤ (σ 49 k).toInt ∧ (σ 49 k).toInt ≤ 1) := id hI47
  have w20 : ∀ k : Nat, k < 6 → 0 ≤ (σ 52 k).toInt ∧ (σ 52 k).toInt ≤ 60 := hI50
  obtain ⟨i21, i22, i23, w24, w25, w26, w27⟩ : (0 ≤ (σ 55 5).toInt) ∧ ((σ 55 5).toInt ≤ (σ 55 4).toInt) ∧ ((σ 55 4).toInt ≤ 40) ∧ (∀ k : Nat, k < 68 → (-200) ≤ (σ 56 k).toInt ∧ (σ 56 k).toInt ≤ 500) ∧ (∀ k : Nat, k < 40 → 0 ≤ (σ 57 k).toInt ∧ (σ 57 k).toInt ≤ 67) ∧ (∀ k : Nat, k < 40 → (-200) ≤ (σ 58 k).toInt ∧ (σ 58 k).toInt ≤ 500) ∧ (∀ k : Nat, k < 40 → (-200) ≤ (σ 59 k).toInt ∧ (σ 59 k).toInt ≤ 500) := id hI101
  obtain ⟨i28, w29, w30⟩ : (0 ≤ (σ 55 6).toInt ∧ (σ 55 6).toInt ≤ 4) ∧ (∀ k : Nat, k < 4 → 0 ≤ (σ 60 k).toInt ∧ (σ 60 k).toInt ≤ 50) ∧ (∀ k : Nat, k < 4 → 0 ≤ (σ 61 k).toInt ∧ (σ 61 k).toInt ≤ 20) := id hI102
  obtain ⟨i31, i32, i33, w34, w35⟩ : (1 ≤ (σ 55 10).toInt ∧ (σ 55 10).toInt ≤ 8) ∧ (1 ≤ (σ 55 12).toInt ∧ (σ 55 12).toInt ≤ 12) ∧ (0 ≤ (σ 55 13).toInt ∧ (σ 55 13).toInt ≤ 999) ∧ (∀ k : Nat, k < 8 → 0 ≤ (σ 62 k).toInt ∧ (σ 62 k).toInt ≤ 3) ∧ (∀ k : Nat, k < 8 → 0 ≤ (σ 67 k).toInt ∧ (σ 67 k).toInt ≤ 3) := id hI104
  obtain ⟨i36, w37⟩ : (0 ≤ (σ 55 15).toInt ∧ (σ 55 15).toInt ≤ 80) ∧ (∀ k : Nat, k < 2 → (-1) ≤ (σ 65 k).toInt ∧ (σ 65 k).toInt ≤ 80) := id hI105
  obtain ⟨i38, w39, w40, w41⟩ : (0 ≤ (σ 55 32).toInt ∧ (σ 55 32).toInt ≤ 20) ∧ (∀ k : Nat, k < 20 → 0 ≤ (σ 70 k).toInt ∧ (σ 70 k).toInt ≤ 6) ∧ (∀ k : Nat, k < 20 → 0 ≤ (σ 71 k).toInt ∧ (σ 71 k).toInt ≤ 8) ∧ (∀ k : Nat, k < 160 → 0 ≤ (σ 72 k).toInt ∧ (σ 72 k).toInt ≤ 3) := id hI106
  obtain ⟨i42, i43, w44⟩ : (0 ≤ (σ 55 47).toInt ∧ (σ 55 47).toInt ≤ 12) ∧ ((σ 55 47).toInt ≤ (σ 55 12).toInt) ∧ (∀ k : Nat, k < 12 → 0 ≤ (σ 80 k).toInt ∧ (σ 80 k).toInt ≤ 3) := id hI107
  refine lv_aload_n hx hb dL_law_572 rfl (lv_at hl 2 rfl) ?_
  refine lv_aload_n hx hb dL_law_573 rfl (lv_at hl 3 rfl) ?_
  refine lv_iload_n hx hb dL_law_574 rfl (lv_at hl 0 rfl) ?_
  refine lv_iconst (v := 1) hx hb dL_law_575 (of_decide_eq_true rfl) ?_
  have g45 := jrg (rfl : x0.toInt = x0.toInt)
  refine lv_iadd hx hb dL_law_576 ?_
  refine lv_topi (fun x46 ex46 => ?_)
  exact by
   have tx46 : x46.toInt = x0.toInt + 1 := (jadd ex46 rfl jz_1 (by omega) (by omega)).trans (by omega)
   refine va_sld hx hb hX hbl hbA hS (jin tx46 (by omega) (by omega)) dL_law_577 ?_
   have g47 := jrg (rfl : (xs x46.toNatClampNeg).toInt = (xs x46.toNatClampNeg).toInt)
   refine lv_aload_n hx hb dL_law_578 rfl (lv_at hl 3 rfl) ?_
   refine lv_iload_n hx hb dL_law_579 rfl (lv_at hl 0 rfl) ?_
   refine lv_iconst (v := 2) hx hb dL_law_580 (of_decide_eq_true rfl) ?_
   refine lv_iadd hx hb dL_law_581 ?_
   refine lv_topi (fun x48 ex48 => ?_)
   have tx48 : x48.toInt = x0.toInt + 2 := (jadd ex48 rfl jz_2 (by omega) (by omega)).trans (by omega)
   exact by
    refine va_sld hx hb hX hbl hbA hS (jin tx48 (by omega) (by omega)) dL_law_582 ?_
    have g49 := jrg (rfl : (xs x48.toNatClampNeg).toInt = (xs x48.toNatClampNeg).toInt)
    refine jcallV (As := [.int (xs x46.toNatClampNeg), .int (xs x48.toNatClampNeg)]) (rest := []) ⟨hx, hb, hml, hown, hts⟩ hK hP hA hS hZ (c_X11_likely l D cI cL ad zz hJ σ τ (xs x46.toNatClampNeg) ((xs x46.toNatClampNeg).toInt) rfl (xs x48.toNatClampNeg) ((xs x48.toNatClampNeg).toInt) rfl hI2 hI16 hI18 hI22 hI31 hI38) cw_RL_65 (jc_0 cI cL ad σ τ) rfl ⟨Nat.le_of_ble_eq_true rfl, Nat.le_of_ble_eq_true rfl⟩ rfl rfl rfl hl.1 rfl (Nat.le_of_ble_eq_true rfl) dL_law_583 ⟨Nat.le_of_ble_eq_true rfl, Nat.le_of_ble_eq_true rfl⟩ (fun r51 σ50 τ50 H locs h50 hP hS => ?_)
    obtain ⟨rfl, f52, f53, I54, h50⟩ := h50
    refine lv_pop hx hb dL_law_586 rfl ?_
    refine lv_aload_n hx hb dL_law_587 rfl (lv_at hl 1 rfl) ?_
    refine lv_aload_n hx hb dL_law_588 rfl (lv_at hl 3 rfl) ?_
    refine lv_iload_n hx hb dL_law_589 rfl (lv_at hl 0 rfl) ?_
    refine lv_iconst (v := 1) hx hb dL_law_590 (of_decide_eq_true rfl) ?_
    refine lv_iadd hx hb dL_law_591 ?_
    refine jtopr ex46.symm ?_
    exact by
     refine va_sld hx hb hX hbl hbA hS (jin tx46 (by omega) (by omega)) dL_law_592 ?_
     refine lv_aload_n hx hb dL_law_593 rfl (lv_at hl 3 rfl) ?_
     refine lv_iload_n hx hb dL_law_594 rfl (lv_at hl 0 rfl) ?_
     refine lv_iconst (v := 2) hx hb dL_law_595 (of_decide_eq_true rfl) ?_
     refine lv_iadd hx hb dL_law_596 ?_
     refine jtopr ex48.symm ?_
     refine va_sld hx hb hX hbl hbA hS (jin tx48 (by omega) (by omega)) dL_law_597 ?_
     have I56 : jI101 σ50 := jI101_fr (congrFun (f52 55 (of_decide_eq_true rfl)) 4) (congrFun (f52 55 (of_decide_eq_true rfl)) 5) (f52 56 (of_decide_eq_true rfl)) (f52 57 (of_decide_eq_true rfl)) (f52 58 (of_decide_eq_true rfl)) (f52 59 (of_decide_eq_true rfl)) hI101
     have I57 : jI102 σ50 := jI102_fr (congrFun (f52 55 (of_decide_eq_true rfl)) 6) (f52 60 (of_decide_eq_true rfl)) (f52 61 (of_decide_eq_true rfl)) hI102
     exact by
      have I58 : jI103 σ50 := jI103_fr (congrFun (f52 55 (of_decide_eq_true rfl)) 9) hI103
      have I59 : jI104 σ50 := jI104_fr (congrFun (f52 55 (of_decide_eq_true rfl)) 10) (congrFun (f52 55 (of_decide_eq_true rfl)) 12) (congrFun (f52 55 (of_decide_eq_true rfl)) 13) (f52 62 (of_decide_eq_true rfl)) (f52 67 (of_decide_eq_true rfl)) hI104
      have I60 : jI105 σ50 := jI105_fr (congrFun (f52 55 (of_decide_eq_true rfl)) 15) (f52 65 (of_decide_eq_true rfl)) hI105
      have I61 : jI106 σ50 := jI106_fr (congrFun (f52 55 (of_decide_eq_true rfl)) 32) (f52 70 (of_decide_eq_true rfl)) (f52 71 (of_decide_eq_true rfl)) (f52 72 (of_decide_eq_true rfl)) hI106
      have I62 : jI119 σ50 := jI119_fr (f52 68 (of_decide_eq_true rfl)) hI119
      have p63 : jKept σ50 := jKept.fr (f52 75 (of_decide_eq_true rfl)) (f52 76 (of_decide_eq_true rfl)) (f52 77 (of_decide_eq_true rfl)) hs_jKept
      refine jcallV (As := [.int (xs x46.toNatClampNeg), .int (xs x48.toNatClampNeg)]) (rest := []) ⟨hx, hb, hml, hown, hts⟩ hK hP hA hS hZ (c_X12_likely l D cI cL ad zz hJ σ50 τ (xs x46.toNatClampNeg) ((xs x46.toNatClampNeg).toInt) rfl (xs x48.toNatClampNeg) ((xs x48.toNatClampNeg).toInt) rfl I56 I57 I58 I59 I60 I61 I62 p63) cw_RL_68 (jc_55 cI cL ad σ50 τ) rfl ⟨Nat.le_of_ble_eq_true rfl, Nat.le_of_ble_eq_true rfl⟩ rfl rfl rfl hl.1 rfl (Nat.le_of_ble_eq_true rfl) dL_law_598 ⟨Nat.le_of_ble_eq_true rfl, Nat.le_of_ble_eq_true rfl⟩ (fun r65 σ64 τ64 H locs h64 hP hS => ?_)
      obtain ⟨rfl, f66, f67, I68, p69, h64⟩ := h64
      refine lv_pop hx hb dL_law_601 rfl ?_
      refine lv_goto (tgt := 1357) hx hb dL_law_602 (of_decide_eq_true rfl) ?_
      obtain ⟨x71, ex71⟩ : ∃ y : Int32, y = x0 + 6 := ⟨_, rfl⟩
      exact by
       have tx71 : x71.toInt = x0.toInt + 6 := (jadd ex71 rfl jz_6 (by omega) (by omega)).trans (by omega)
       refine lv_iinc (v := x71) (lv' := [(3, .int x71), (2, .ref (ad 55)), (1, .ref (ad 0)), (0, .ref b)]) hx hb dL_law_1357 hl (k := 0) rfl (by rw [ex71]; rfl) (of_decide_eq_true rfl) rfl (fun ls hl => ?_)
       refine lv_goto (tgt := 18) hx hb dL_law_1360 (of_decide_eq_true rfl) ?_
       have I72 : jI2 σ64 := jI2_fr ((congrFun (f66 2 (of_decide_eq_true rfl)) 0).trans (congrFun (f52 2 (of_decide_eq_true rfl)) 0)) ((congrFun (f66 2 (of_decide_eq_true rfl)) 1).trans (congrFun (f52 2 (of_decide_eq_true rfl)) 1)) ((congrFun (f66 2 (of_decide_eq_true rfl)) 2).trans (congrFun (f52 2 (of_decide_eq_true rfl)) 2)) ((congrFun (f66 2 (of_decide_eq_true rfl)) 3).trans (congrFun (f52 2 (of_decide_eq_true rfl)) 3)) ((f66 6 (of_decide_eq_true rfl)).trans (f52 6 (of_decide_eq_true rfl))) hI2
       have I73 : jI9 σ64 := jI9_fr ((congrFun (f66 9 (of_decide_eq_true rfl)) 0).trans (congrFun (f52 9 (of_decide_eq_true rfl)) 0)) ((f66 10 (of_decide_eq_true rfl)).trans (f52 10 (of_decide_eq_true rfl))) ((f66 11 (of_decide_eq_true rfl)).trans (f52 11 (of_decide_eq_true rfl))) hI9
       have I74 : jI12 σ64 := jI12_fr ((congrFun (f66 12 (of_decide_eq_true rfl)) 0).trans (congrFun (f52 12 (of_decide_eq_true rfl)) 0)) ((f66 13 (of_decide_eq_true rfl)).trans (f52 13 (of_decide_eq_true rfl))) hI12
       have I75 : jI16 σ64 := jI16_fr ((congrFun (f66 16 (of_decide_eq_true rfl)) 0).trans (congrFun (f52 16 (of_decide_eq_true rfl)) 0)) ((congrFun (f66 16 (of_decide_eq_true rfl)) 1).trans (congrFun (f52 16 (of_decide_eq_true rfl)) 1)) ((congrFun (f66 16 (of_decide_eq_true rfl)) 2).trans (congrFun (f52 16 (of_decide_eq_true rfl)) 2)) ((f66 17 (of_decide_eq_true rfl)).trans (f52 17 (of_decide_eq_true rfl))) hI16
       have I76 : jI18 σ64 := jI18_fr ((congrFun (f66 18 (of_decide_eq_true rfl)) 0).trans (congrFun (f52 18 (of_decide_eq_true rfl)) 0)) ((f66 19 (of_decide_eq_true rfl)).trans (f52 19 (of_decide_eq_true rfl))) hI18
       have I77 : jI22 σ64 := jI22_fr ((congrFun (f66 22 (of_decide_eq_true rfl)) 0).trans (congrFun (f52 22 (of_decide_eq_true rfl)) 0)) ((f66 23 (of_decide_eq_true rfl)).trans (f52 23 (of_decide_eq_true rfl))) hI22
       exact by
        have I78 : jI31 σ64 := jI31_fr (congrFun (f66 31 (of_decide_eq_true rfl)) 8) (f66 33 (of_decide_eq_true rfl)) (f66 36 (of_decide_eq_true rfl)) I54
        have I79 : jI38 σ64 := jI38_fr ((congrFun (f66 38 (of_decide_eq_true rfl)) 0).trans (congrFun (f52 38 (of_decide_eq_true rfl)) 0)) ((congrFun (f66 38 (of_decide_eq_true rfl)) 1).trans (congrFun (f52 38 (of_decide_eq_true rfl)) 1)) ((f66 39 (of_decide_eq_true rfl)).trans (f52 39 (of_decide_eq_true rfl))) hI38
        have I80 : jI43 σ64 := jI43_fr ((congrFun (f66 43 (of_decide_eq_true rfl)) 8).trans (congrFun (f52 43 (of_decide_eq_true rfl)) 8)) hI43
        have I81 : jI47 σ64 := jI47_fr ((congrFun (f66 47 (of_decide_eq_true rfl)) 0).trans (congrFun (f52 47 (of_decide_eq_true rfl)) 0)) ((f66 48 (of_decide_eq_true rfl)).trans (f52 48 (of_decide_eq_true rfl))) ((f66 49 (of_decide_eq_true rfl)).trans (f52 49 (of_decide_eq_true rfl))) hI47
        have I82 : jI50 σ64 := jI50_fr ((f66 52 (of_decide_eq_true rfl)).trans (f52 52 (of_decide_eq_true rfl))) hI50
        have I83 : jI101 σ64 := jI101_fr (f67 4 (of_decide_eq_true rfl)) (f67 5 (of_decide_eq_true rfl)) (f66 56 (of_decide_eq_true rfl)) (f66 57 (of_decide_eq_true rfl)) (f66 58 (of_decide_eq_true rfl)) (f66 59 (of_decide_eq_true rfl)) I56
        have I84 : jI102 σ64 := jI102_fr (f67 6 (of_decide_eq_true rfl)) (f66 60 (of_decide_eq_true rfl)) (f66 61 (of_decide_eq_true rfl)) I57
        have I85 : jI103 σ64 := jI103_fr (f67 9 (of_decide_eq_true rfl)) I58
        have I86 : jI104 σ64 := jI104_fr (f67 10 (of_decide_eq_true rfl)) (f67 12 (of_decide_eq_true rfl)) (f67 13 (of_decide_eq_true rfl)) (f66 62 (of_decide_eq_true rfl)) (f66 67 (of_decide_eq_true rfl)) I59
        have I87 : jI105 σ64 := jI105_fr (f67 15 (of_decide_eq_true rfl)) (f66 65 (of_decide_eq_true rfl)) I60
        have I88 : jI106 σ64 := jI106_fr (f67 32 (of_decide_eq_true rfl)) (f66 70 (of_decide_eq_true rfl)) (f66 71 (of_decide_eq_true rfl)) (f66 72 (of_decide_eq_true rfl)) I61
        have I89 : jI107 σ64 := jI107_fr ((f67 12 (of_decide_eq_true rfl)).trans (congrFun (f52 55 (of_decide_eq_true rfl)) 12)) ((f67 47 (of_decide_eq_true rfl)).trans (congrFun (f52 55 (of_decide_eq_true rfl)) 47)) ((f66 80 (of_decide_eq_true rfl)).trans (f52 80 (of_decide_eq_true rfl))) hI107
        have I90 : jI109 σ64 := jI109_fr ((f67 50 (of_decide_eq_true rfl)).trans (congrFun (f52 55 (of_decide_eq_true rfl)) 50)) hI109
        have I91 : jI110 σ64 := jI110_fr ((f66 86 (of_decide_eq_true rfl)).trans (f52 86 (of_decide_eq_true rfl))) ((f66 87 (of_decide_eq_true rfl)).trans (f52 87 (of_decide_eq_true rfl))) hI110
        have I92 : jI111 σ64 := jI111_fr ((f66 79 (of_decide_eq_true rfl)).trans (f52 79 (of_decide_eq_true rfl))) hI111
        have p93 : jBook σ64 := jBook.fr ((f67 47 (of_decide_eq_true rfl)).trans (congrFun (f52 55 (of_decide_eq_true rfl)) 47)) ((f67 10 (of_decide_eq_true rfl)).trans (congrFun (f52 55 (of_decide_eq_true rfl)) 10)) ((f66 81 (of_decide_eq_true rfl)).trans (f52 81 (of_decide_eq_true rfl))) hs_jBook
        have z94 : (σ64 2 0).toInt = (σ 2 0).toInt := (congrArg Int32.toInt (show σ64 2 0 = (σ 2 0) from ((congrFun (f66 2 (of_decide_eq_true rfl)) 0).trans (congrFun (f52 2 (of_decide_eq_true rfl)) 0))))
        have z95 : (σ64 55 6).toInt = (σ 55 6).toInt := (congrArg Int32.toInt (show σ64 55 6 = (σ 55 6) from ((f67 6 (of_decide_eq_true rfl)).trans (congrFun (f52 55 (of_decide_eq_true rfl)) 6))))
        have z96 : (σ64 2 2).toInt = (σ 2 2).toInt := (congrArg Int32.toInt (show σ64 2 2 = (σ 2 2) from ((congrFun (f66 2 (of_decide_eq_true rfl)) 2).trans (congrFun (f52 2 (of_decide_eq_true rfl)) 2))))
        have z97 : (σ64 55 5).toInt = (σ 55 5).toInt := (congrArg Int32.toInt (show σ64 55 5 = (σ 55 5) from ((f67 5 (of_decide_eq_true rfl)).trans (congrFun (f52 55 (of_decide_eq_true rfl)) 5))))
        have z98 : (σ64 2 3).toInt = (σ 2 3).toInt := (congrArg Int32.toInt (show σ64 2 3 = (σ 2 3) from ((congrFun (f66 2 (of_decide_eq_true rfl)) 3).trans (congrFun (f52 2 (of_decide_eq_true rfl)) 3))))
        have z99 : (σ64 55 4).toInt = (σ 55 4).toInt := (congrArg Int32.toInt (show σ64 55 4 = (σ 55 4) from ((f67 4 (of_decide_eq_true rfl)).trans (congrFun (f52 55 (of_decide_eq_true rfl)) 4))))
        have z100 : (σ64 9 0).toInt = (σ 9 0).toInt := (congrArg Int32.toInt (show σ64 9 0 = (σ 9 0) from ((congrFun (f66 9 (of_decide_eq_true rfl)) 0).trans (congrFun (f52 9 (of_decide_eq_true rfl)) 0))))
        have z101 : (σ64 55 15).toInt = (σ 55 15).toInt := (congrArg Int32.toInt (show σ64 55 15 = (σ 55 15) from ((f67 15 (of_decide_eq_true rfl)).trans (congrFun (f52 55 (of_decide_eq_true rfl)) 15))))
        have z102 : (σ64 16 0).toInt = (σ 16 0).toInt := (congrArg Int32.toInt (show σ64 16 0 = (σ 16 0) from ((congrFun (f66 16 (of_decide_eq_true rfl)) 0).trans (congrFun (f52 16 (of_decide_eq_true rfl)) 0))))
        have z103 : (σ64 55 10).toInt = (σ 55 10).toInt := (congrArg Int32.toInt (show σ64 55 10 = (σ 55 10) from ((f67 10 (of_decide_eq_true rfl)).trans (congrFun (f52 55 (of_decide_eq_true rfl)) 10))))
        have z104 : (σ64 16 1).toInt = (σ 16 1).toInt := (congrArg Int32.toInt (show σ64 16 1 = (σ 16 1) from ((congrFun (f66 16 (of_decide_eq_true rfl)) 1).trans (congrFun (f52 16 (of_decide_eq_true rfl)) 1))))
        have z105 : (σ64 55 12).toInt = (σ 55 12).toInt := (congrArg Int32.toInt (show σ64 55 12 = (σ 55 12) from ((f67 12 (of_decide_eq_true rfl)).trans (congrFun (f52 55 (of_decide_eq_true rfl)) 12))))
        have z106 : (σ64 16 2).toInt = (σ 16 2).toInt := (congrArg Int32.toInt (show σ64 16 2 = (σ 16 2) from ((congrFun (f66 16 (of_decide_eq_true rfl)) 2).trans (congrFun (f52 16 (of_decide_eq_true rfl)) 2))))
        have z107 : (σ64 55 13).toInt = (σ 55 13).toInt := (congrArg Int32.toInt (show σ64 55 13 = (σ 55 13) from ((f67 13 (of_decide_eq_true rfl)).trans (congrFun (f52 55 (of_decide_eq_true rfl)) 13))))
        have z108 : (σ64 38 0).toInt = (σ 38 0).toInt := (congrArg Int32.toInt (show σ64 38 0 = (σ 38 0) from ((congrFun (f66 38 (of_decide_eq_true rfl)) 0).trans (congrFun (f52 38 (of_decide_eq_true rfl)) 0))))
        have z109 : (σ64 55 32).toInt = (σ 55 32).toInt := (congrArg Int32.toInt (show σ64 55 32 = (σ 55 32) from ((f67 32 (of_decide_eq_true rfl)).trans (congrFun (f52 55 (of_decide_eq_true rfl)) 32))))
        have z110 : (σ64 38 1).toInt = (σ 38 1).toInt := (congrArg Int32.toInt (show σ64 38 1 = (σ 38 1) from ((congrFun (f66 38 (of_decide_eq_true rfl)) 1).trans (congrFun (f52 38 (of_decide_eq_true rfl)) 1))))
        have z111 : (σ64 55 55).toInt = (σ 55 55).toInt := (congrArg Int32.toInt (show σ64 55 55 = (σ 55 55) from ((f67 55 (of_decide_eq_true rfl)).trans (congrFun (f52 55 (of_decide_eq_true rfl)) 55))))
        have z112 : (σ64 47 0).toInt = (σ 47 0).toInt := (congrArg Int32.toInt (show σ64 47 0 = (σ 47 0) from ((congrFun (f66 47 (of_decide_eq_true rfl)) 0).trans (congrFun (f52 47 (of_decide_eq_true rfl)) 0))))
        have z113 : (σ64 55 47).toInt = (σ 55 47).toInt := (congrArg Int32.toInt (show σ64 55 47 = (σ 55 47) from ((f67 47 (of_decide_eq_true rfl)).trans (congrFun (f52 55 (of_decide_eq_true rfl)) 47))))
        have z114 : (σ64 55 30).toInt = (σ 55 30).toInt := (congrArg Int32.toInt (show σ64 55 30 = (σ 55 30) from ((f67 30 (of_decide_eq_true rfl)).trans (congrFun (f52 55 (of_decide_eq_true rfl)) 30))))
        have z115 : (σ64 55 31).toInt = (σ 55 31).toInt := (congrArg Int32.toInt (show σ64 55 31 = (σ 55 31) from ((f67 31 (of_decide_eq_true rfl)).trans (congrFun (f52 55 (of_decide_eq_true rfl)) 31))))
        exact by exact ih x71 σ64 τ _ _ ls (by have h9 := tx71; omega) ⟨I72, I73, I74, I75, I76, I77, I78, I79, I80, I81, I82, I83, I84, I85, I86, I87, I88, I89, I90, I91, I92, I68, p69, p93, (by omega), (by omega), (by omega), (by omega), (by omega), (by omega), (by omega), (by omega), (by omega), (by omega), (by omega), (by omega), (show jNumP (σ64 3) (σ64 56) (σ64 6) (σ64 57) (σ64 7) (σ64 58) (σ64 8) (σ64 59) (σ64 55 6).toInt (σ64 55 4).toInt by rw [show σ64 3 = σ 3 from ((f66 3 (of_decide_eq_true rfl)).trans (f52 3 (of_decide_eq_true rfl))), show σ64 56 = σ 56 from ((f66 56 (of_decide_eq_true rfl)).trans (f52 56 (of_decide_eq_true rfl))), show σ64 6 = σ 6 from ((f66 6 (of_decide_eq_true rfl)).trans (f52 6 (of_decide_eq_true rfl))), show σ64 57 = σ 57 from ((f66 57 (of_decide_eq_true rfl)).trans (f52 57 (of_decide_eq_true rfl))), show σ64 7 = σ 7 from ((f66 7 (of_decide_eq_true rfl)).trans (f52 7 (of_decide_eq_true rfl))), show σ64 58 = σ 58 from ((f66 58 (of_decide_eq_true rfl)).trans (f52 58 (of_decide_eq_true rfl))), show σ64 8 = σ 8 from ((f66 8 (of_decide_eq_true rfl)).trans (f52 8 (of_decide_eq_true rfl))), show σ64 59 = σ 59 from ((f66 59 (of_decide_eq_true rfl)).trans (f52 59 (of_decide_eq_true rfl))), show (σ64 55 6).toInt = (σ 55 6).toInt from by omega, show (σ64 55 4).toInt = (σ 55 4).toInt from by omega]; exact hr0), (show jOvP (σ64 56) (σ64 57) (σ64 58) (σ64 59) (σ64 55 4).toInt by rw [show σ64 56 = σ 56 from ((f66 56 (of_decide_eq_true rfl)).trans (f52 56 (of_decide_eq_true rfl))), show σ64 57 = σ 57 from ((f66 57 (of_decide_eq_true rfl)).trans (f52 57 (of_decide_eq_true rfl))), show σ64 58 = σ 58 from ((f66 58 (of_decide_eq_true rfl)).trans (f52 58 (of_decide_eq_true rfl))), show σ64 59 = σ 59 from ((f66 59 (of_decide_eq_true rfl)).trans (f52 59 (of_decide_eq_true rfl))), show (σ64 55 4).toInt = (σ 55 4).toInt from by omega]; exact hr1), (show jTp (σ64 10) (σ64 63) (σ64 55 15).toInt by rw [show σ64 10 = σ 10 from ((f66 10 (of_decide_eq_true rfl)).trans (f52 10 (of_decide_eq_true rfl))), show σ64 63 = σ 63 from ((f66 63 (of_decide_eq_true rfl)).trans (f52 63 (of_decide_eq_true rfl)))]; exact hr2.le (by omega)), (show jSo (σ64 17) (σ64 62) (σ64 16 0).toInt by rw [show σ64 17 = σ 17 from ((f66 17 (of_decide_eq_true rfl)).trans (f52 17 (of_decide_eq_true rfl))), show σ64 62 = σ 62 from ((f66 62 (of_decide_eq_true rfl)).trans (f52 62 (of_decide_eq_true rfl))), show (σ64 16 0).toInt = (σ 16 0).toInt from by omega]; exact hr3), (show jShP (σ64 51) (σ64 52) (σ64 53) (σ64 86) (σ64 87) (σ64 55 32).toInt by rw [show σ64 51 = σ 51 from ((f66 51 (of_decide_eq_true rfl)).trans (f52 51 (of_decide_eq_true rfl))), show σ64 52 = σ 52 from ((f66 52 (of_decide_eq_true rfl)).trans (f52 52 (of_decide_eq_true rfl))), show σ64 53 = σ 53 from ((f66 53 (of_decide_eq_true rfl)).trans (f52 53 (of_decide_eq_true rfl))), show σ64 86 = σ 86 from ((f66 86 (of_decide_eq_true rfl)).trans (f52 86 (of_decide_eq_true rfl))), show σ64 87 = σ 87 from ((f66 87 (of_decide_eq_true rfl)).trans (f52 87 (of_decide_eq_true rfl)))]; exact (hr4.up (by omega) (by omega))), (show jEl (σ64 51) (σ64 52) (τ 54) (τ 88) by rw [show σ64 51 = σ 51 from ((f66 51 (of_decide_eq_true rfl)).trans (f52 51 (of_decide_eq_true rfl))), show σ64 52 = σ 52 from ((f66 52 (of_decide_eq_true rfl)).trans (f52 52 (of_decide_eq_true rfl)))]; exact hr5), (show jByP (σ64 51) (σ64 52) (τ 54) by rw [show σ64 51 = σ 51 from ((f66 51 (of_decide_eq_true rfl)).trans (f52 51 (of_decide_eq_true rfl))), show σ64 52 = σ 52 from ((f66 52 (of_decide_eq_true rfl)).trans (f52 52 (of_decide_eq_true rfl)))]; exact hr6), (show jBk (σ64 48) (σ64 80) (σ64 49) (σ64 81) (σ64 55 47).toInt by rw [show σ64 48 = σ 48 from ((f66 48 (of_decide_eq_true rfl)).trans (f52 48 (of_decide_eq_true rfl))), show σ64 49 = σ 49 from ((f66 49 (of_decide_eq_true rfl)).trans (f52 49 (of_decide_eq_true rfl))), show σ64 80 = σ 80 from ((f66 80 (of_decide_eq_true rfl)).trans (f52 80 (of_decide_eq_true rfl))), show σ64 81 = σ 81 from ((f66 81 (of_decide_eq_true rfl)).trans (f52 81 (of_decide_eq_true rfl))), show (σ64 55 47).toInt = (σ 55 47).toInt from by omega]; exact hr7), (show jKd (σ64 39) (σ64 70) (σ64 55 32).toInt by rw [show σ64 39 = σ 39 from ((f66 39 (of_decide_eq_true rfl)).trans (f52 39 (of_decide_eq_true rfl))), show σ64 70 = σ 70 from ((f66 70 (of_decide_eq_true rfl)).trans (f52 70 (of_decide_eq_true rfl))), show (σ64 55 32).toInt = (σ 55 32).toInt from by omega]; exact hr8), (show jTt (σ64 42) (σ64 85) (σ64 55 55).toInt by rw [show σ64 42 = σ 42 from ((f66 42 (of_decide_eq_true rfl)).trans (f52 42 (of_decide_eq_true rfl))), show σ64 85 = σ 85 from ((f66 85 (of_decide_eq_true rfl)).trans (f52 85 (of_decide_eq_true rfl))), show (σ64 55 55).toInt = (σ 55 55).toInt from by omega]; exact hr9)⟩ hP hS (lv_sub hl [0, 1, 2, 3] rfl)
set_option maxHeartbeats 4000000 in
set_option maxRecDepth 100000 in
theorem law_case_13 {p : Program} {e : Env} {s : State} {m : MethodId} {below : List Frame} {meth : Method} {c : Code} (l : Launch) {b L : Nat} {xs : Nat → Int32} {D : va_G} {cI cL : ClassId} {ad zz : Nat → Nat} (C0 : lw_At p s m meth c b L xs) (hJ : jD ad) (hA : ∀ q, jA ad q → s.heap.size ≤ q) (hK : jK D cI cL s) (hZ : jZ zz (fun q : Nat => s.heap.size ≤ q) s s.heap) {x0 : Int32} (hx0 : 0 ≤ x0.toInt) (hxL : x0.toInt + 6 ≤ (L : Int)) (hL : L ≤ 384) {σ : Nat → Nat → Int32} {τ : Nat → Nat → Int64} {H : Heap} {locs : List Loc} (hS : va_S (fun q : Nat => s.heap.size ≤ q) s.heap H locs) {ls : Array Slot} (hAll : jAll σ τ) (hP : jH D cI cL ad σ τ H) (hl : lv_has ls 4 [(3, .int x0), (2, .ref (ad 55)), (1, .ref (ad 0)), (0, .ref b)]) (ih : ∀ (x1 : Int32) (σ : Nat → Nat → Int32) (τ : Nat → Nat → Int64) (H : Heap) (locs : List Loc) (ls : Array Slot), x1.toInt = x0.toInt + 6 → jAll σ τ → jH D cI cL ad σ τ H → va_S (fun q : Nat => s.heap.size ≤ q) s.heap H locs → lv_has ls 4 [(3, .int x1), (2, .ref (ad 55)), (1, .ref (ad 0)), (0, .ref b)] → W p l e room_1 s m #[Value.ref b] below meth c H locs 90 348600 (lw_Z below #[Value.ref b] s) (F0 m 18 ls [])) : W p l e room_1 s m #[Value.ref b] below meth c H locs 90 348600 (lw_Z below #[Value.ref b] s) (F0 m 605 ls []) := by
  obtain ⟨hx, hb, hr, hml, hown, hts0, hX, hbl, hlocks, hgv⟩ := C0
  have hts : ∀ w ∈ wsL_law, w.before #[Value.ref b] s = true := fun w h => hts0 w (wsL_law_in w h)
  have hbA : ¬ (fun q : Nat => s.heap.size ≤ q) b := Nat.not_le.mpr hbl
  have hown : s.vm.findClass RL = some m.cls := hown
  obtain ⟨hI2, hI9, hI12, hI16, hI18, hI22, hI31, hI38, hI43, hI47, hI50, hI101, hI102, hI103, hI104, hI105, hI106, hI107, hI109, hI110, hI111, hI119, hs_jKept, hs_jBook, ht0, ht1, ht2, ht3, ht4, ht5, ht6, ht7, ht8, ht9, ht10, ht11, hr0, hr1, hr2, hr3, hr4, hr5, hr6, hr7, hr8, hr9⟩ := hAll
  have hL9 : (L : Int) ≤ 384 := by omega
  obtain ⟨i1, i2, i3, i4, i5, w6⟩ : (0 ≤ (σ 2 0).toInt ∧ (σ 2 0).toInt ≤ 4) ∧ (0 ≤ (σ 2 1).toInt ∧ (σ 2 1).toInt ≤ 3) ∧ (0 ≤ (σ 2 2).toInt) ∧ (0 ≤ (σ 2 3).toInt) ∧ ((σ 2 2).toInt + (σ 2 3).toInt ≤ 40) ∧ (∀ k : Nat, k < 40 → 0 ≤ (σ 6 k).toInt ∧ (σ 6 k).toInt ≤ 67) := id hI2
  obtain ⟨i7, w8, w9⟩ : (0 ≤ (σ 9 0).toInt ∧ (σ 9 0).toInt ≤ 80) ∧ (∀ k : Nat, k < 80 → 0 ≤ (σ 10 k).toInt ∧ (σ 10 k).toInt ≤ 255) ∧ (∀ k : Nat, k < 8 → 0 ≤ (σ 11 k).toInt ∧ (σ 11 k).toInt ≤ 3) := id hI9
  obtain ⟨i10, i11, i12, w13⟩ : (1 ≤ (σ 16 0).toInt ∧ (σ 16 0).toInt ≤ 8) ∧ (1 ≤ (σ 16 1).toInt ∧ (σ 16 1).toInt ≤ 12) ∧ (0 ≤ (σ 16 2).toInt ∧ (σ 16 2).toInt ≤ 999) ∧ (∀ k : Nat, k < 8 → 0 ≤ (σ 17 k).toInt ∧ (σ 17 k).toInt ≤ 3) := id hI16
  obtain ⟨i14, i15, w16⟩ : (0 ≤ (σ 38 0).toInt ∧ (σ 38 0).toInt ≤ 20) ∧ (0 ≤ (σ 38 1).toInt ∧ (σ 38 1).toInt ≤ 1000) ∧ (∀ k : Nat, k < 20 → 0 ≤ (σ 39 k).toInt ∧ (σ 39 k).toInt ≤ 6) := id hI38
  obtain ⟨i17, w18, w19⟩ : (0 ≤ (σ 47 0).toInt ∧ (σ 47 0).toInt ≤ 12) ∧ (∀ k : Nat, k < 12 → 0 ≤ (σ 48 k).toInt ∧ (σ 48 k).toInt ≤ 3) ∧ (∀ k : Nat, k < 12 → 0 ≤ (σ 49 k).toInt ∧ (σ 49 k).toInt ≤ 1) := id hI47
  have w20 : ∀ k : Nat, k < 6 → 0 ≤ (σ 52 k).toInt ∧ (σ 52 k).toInt ≤ 60 := hI50
  obtain ⟨i21, i22, i23, w24, w25, w26, w27⟩ : (0 ≤ (σ 55 5).toInt) ∧ ((σ 55 5).toInt ≤ (σ 55 4).toInt) ∧ ((σ 55 4).toInt ≤ 40) ∧ (∀ k : Nat, k < 68 → (-200) ≤ (σ 56 k).toInt ∧ (σ 56 k).toInt ≤ 500) ∧ (∀ k : Nat, k < 40 → 0 ≤ (σ 57 k).toInt ∧ (σ 57 k).toInt ≤ 67) ∧ (∀ k : Nat, k < 40 → (-200) ≤ (σ 58 k).toInt ∧ (σ 58 k).toInt ≤ 500) ∧ (∀ k : Nat, k < 40 → (-200) ≤ (σ 59 k).toInt ∧ (σ 59 k).toInt ≤ 500) := id hI101
  obtain ⟨i28, w29, w30⟩ : (0 ≤ (σ 55 6).toInt ∧ (σ 55 6).toInt ≤ 4) ∧ (∀ k : Nat, k < 4 → 0 ≤ (σ 60 k).toInt ∧ (σ 60 k).toInt ≤ 50) ∧ (∀ k : Nat, k < 4 → 0 ≤ (σ 61 k).toInt ∧ (σ 61 k).toInt ≤ 20) := id hI102
  obtain ⟨i31, i32, i33, w34, w35⟩ : (1 ≤ (σ 55 10).toInt ∧ (σ 55 10).toInt ≤ 8) ∧ (1 ≤ (σ 55 12).toInt ∧ (σ 55 12).toInt ≤ 12) ∧ (0 ≤ (σ 55 13).toInt ∧ (σ 55 13).toInt ≤ 999) ∧ (∀ k : Nat, k < 8 → 0 ≤ (σ 62 k).toInt ∧ (σ 62 k).toInt ≤ 3) ∧ (∀ k : Nat, k < 8 → 0 ≤ (σ 67 k).toInt ∧ (σ 67 k).toInt ≤ 3) := id hI104
  obtain ⟨i36, w37⟩ : (0 ≤ (σ 55 15).toInt ∧ (σ 55 15).toInt ≤ 80) ∧ (∀ k : Nat, k < 2 → (-1) ≤ (σ 65 k).toInt ∧ (σ 65 k).toInt ≤ 80) := id hI105
  obtain ⟨i38, w39, w40, w41⟩ : (0 ≤ (σ 55 32).toInt ∧ (σ 55 32).toInt ≤ 20) ∧ (∀ k : Nat, k < 20 → 0 ≤ (σ 70 k).toInt ∧ (σ 70 k).toInt ≤ 6) ∧ (∀ k : Nat, k < 20 → 0 ≤ (σ 71 k).toInt ∧ (σ 71 k).toInt ≤ 8) ∧ (∀ k : Nat, k < 160 → 0 ≤ (σ 72 k).toInt ∧ (σ 72 k).toInt ≤ 3) := id hI106
  obtain ⟨i42, i43, w44⟩ : (0 ≤ (σ 55 47).toInt ∧ (σ 55 47).toInt ≤ 12) ∧ ((σ 55 47).toInt ≤ (σ 55 12).toInt) ∧ (∀ k : Nat, k < 12 → 0 ≤ (σ 80 k).toInt ∧ (σ 80 k).toInt ≤ 3) := id hI107
  refine lv_aload_n hx hb dL_law_605 rfl (lv_at hl 2 rfl) ?_
  refine lv_aload_n hx hb dL_law_606 rfl (lv_at hl 3 rfl) ?_
  refine lv_iload_n hx hb dL_law_607 rfl (lv_at hl 0 rfl) ?_
  refine lv_iconst (v := 1) hx hb dL_law_608 (of_decide_eq_true rfl) ?_
  have g45 := jrg (rfl : x0.toInt = x0.toInt)
  refine lv_iadd hx hb dL_law_609 ?_
  refine lv_topi (fun x46 ex46 => ?_)
  exact by
   have tx46 : x46.toInt = x0.toInt + 1 := (jadd ex46 rfl jz_1 (by omega) (by omega)).trans (by omega)
   refine va_sld hx hb hX hbl hbA hS (jin tx46 (by omega) (by omega)) dL_law_610 ?_
   have g47 := jrg (rfl : (xs x46.toNatClampNeg).toInt = (xs x46.toNatClampNeg).toInt)
   refine jcallV (As := [.int (xs x46.toNatClampNeg)]) (rest := []) ⟨hx, hb, hml, hown, hts⟩ hK hP hA hS hZ (c_X11_best l D cI cL ad zz hJ σ τ (xs x46.toNatClampNeg) ((xs x46.toNatClampNeg).toInt) rfl hI2 hI16 hI22 hI31 hI47) cw_RL_69 (jc_0 cI cL ad σ τ) rfl ⟨Nat.le_of_ble_eq_true rfl, Nat.le_of_ble_eq_true rfl⟩ rfl rfl rfl hl.1 rfl (Nat.le_of_ble_eq_true rfl) dL_law_611 ⟨Nat.le_of_ble_eq_true rfl, Nat.le_of_ble_eq_true rfl⟩ (fun r49 σ48 τ48 H locs h48 hP hS => ?_)
   obtain ⟨rfl, f50, f51, I52, h48⟩ := h48
   refine lv_pop hx hb dL_law_614 rfl ?_
   refine lv_aload_n hx hb dL_law_615 rfl (lv_at hl 1 rfl) ?_
   refine lv_aload_n hx hb dL_law_616 rfl (lv_at hl 3 rfl) ?_
   refine lv_iload_n hx hb dL_law_617 rfl (lv_at hl 0 rfl) ?_
   exact by
    refine lv_iconst (v := 1) hx hb dL_law_618 (of_decide_eq_true rfl) ?_
    refine lv_iadd hx hb dL_law_619 ?_
    refine jtopr ex46.symm ?_
    refine va_sld hx hb hX hbl hbA hS (jin tx46 (by omega) (by omega)) dL_law_620 ?_
    have I54 : jI101 σ48 := jI101_fr (congrFun (f50 55 (of_decide_eq_true rfl)) 4) (congrFun (f50 55 (of_decide_eq_true rfl)) 5) (f50 56 (of_decide_eq_true rfl)) (f50 57 (of_decide_eq_true rfl)) (f50 58 (of_decide_eq_true rfl)) (f50 59 (of_decide_eq_true rfl)) hI101
    have I55 : jI102 σ48 := jI102_fr (congrFun (f50 55 (of_decide_eq_true rfl)) 6) (f50 60 (of_decide_eq_true rfl)) (f50 61 (of_decide_eq_true rfl)) hI102
    have I56 : jI103 σ48 := jI103_fr (congrFun (f50 55 (of_decide_eq_true rfl)) 9) hI103
    have I57 : jI104 σ48 := jI104_fr (congrFun (f50 55 (of_decide_eq_true rfl)) 10) (congrFun (f50 55 (of_decide_eq_true rfl)) 12) (congrFun (f50 55 (of_decide_eq_true rfl)) 13) (f50 62 (of_decide_eq_true rfl)) (f50 67 (of_decide_eq_true rfl)) hI104
    have I58 : jI105 σ48 := jI105_fr (congrFun (f50 55 (of_decide_eq_true rfl)) 15) (f50 65 (of_decide_eq_true rfl)) hI105
    exact by
     have I59 : jI106 σ48 := jI106_fr (congrFun (f50 55 (of_decide_eq_true rfl)) 32) (f50 70 (of_decide_eq_true rfl)) (f50 71 (of_decide_eq_true rfl)) (f50 72 (of_decide_eq_true rfl)) hI106
     have I60 : jI107 σ48 := jI107_fr (congrFun (f50 55 (of_decide_eq_true rfl)) 12) (congrFun (f50 55 (of_decide_eq_true rfl)) 47) (f50 80 (of_decide_eq_true rfl)) hI107
     have I61 : jI119 σ48 := jI119_fr (f50 68 (of_decide_eq_true rfl)) hI119
     have p62 : jKept σ48 := jKept.fr (f50 75 (of_decide_eq_true rfl)) (f50 76 (of_decide_eq_true rfl)) (f50 77 (of_decide_eq_true rfl)) hs_jKept
     have p63 : jBook σ48 := jBook.fr (congrFun (f50 55 (of_decide_eq_true rfl)) 47) (congrFun (f50 55 (of_decide_eq_true rfl)) 10) (f50 81 (of_decide_eq_true rfl)) hs_jBook
     refine jcallV (As := [.int (xs x46.toNatClampNeg)]) (rest := []) ⟨hx, hb, hml, hown, hts⟩ hK hP hA hS hZ (c_X12_best l D cI cL ad zz hJ σ48 τ (xs x46.toNatClampNeg) ((xs x46.toNatClampNeg).toInt) rfl I54 I55 I56 I57 I58 I59 I60 I61 p62 p63) cw_RL_72 (jc_55 cI cL ad σ48 τ) rfl ⟨Nat.le_of_ble_eq_true rfl, Nat.le_of_ble_eq_true rfl⟩ rfl rfl rfl hl.1 rfl (Nat.le_of_ble_eq_true rfl) dL_law_621 ⟨Nat.le_of_ble_eq_true rfl, Nat.le_of_ble_eq_true rfl⟩ (fun r65 σ64 τ64 H locs h64 hP hS => ?_)
     obtain ⟨rfl, f66, f67, I68, p69, p70, h64⟩ := h64
     refine lv_pop hx hb dL_law_624 rfl ?_
     refine lv_goto (tgt := 1357) hx hb dL_law_625 (of_decide_eq_true rfl) ?_
     obtain ⟨x72, ex72⟩ : ∃ y : Int32, y = x0 + 6 := ⟨_, rfl⟩
     exact by
      have tx72 : x72.toInt = x0.toInt + 6 := (jadd ex72 rfl jz_6 (by omega) (by omega)).trans (by omega)
      refine lv_iinc (v := x72) (lv' := [(3, .int x72), (2, .ref (ad 55)), (1, .ref (ad 0)), (0, .ref b)]) hx hb dL_law_1357 hl (k := 0) rfl (by rw [ex72]; rfl) (of_decide_eq_true rfl) rfl (fun ls hl => ?_)
      refine lv_goto (tgt := 18) hx hb dL_law_1360 (of_decide_eq_true rfl) ?_
      have I73 : jI2 σ64 := jI2_fr ((congrFun (f66 2 (of_decide_eq_true rfl)) 0).trans (congrFun (f50 2 (of_decide_eq_true rfl)) 0)) ((congrFun (f66 2 (of_decide_eq_true rfl)) 1).trans (congrFun (f50 2 (of_decide_eq_true rfl)) 1)) ((congrFun (f66 2 (of_decide_eq_true rfl)) 2).trans (congrFun (f50 2 (of_decide_eq_true rfl)) 2)) ((congrFun (f66 2 (of_decide_eq_true rfl)) 3).trans (congrFun (f50 2 (of_decide_eq_true rfl)) 3)) ((f66 6 (of_decide_eq_true rfl)).trans (f50 6 (of_decide_eq_true rfl))) hI2
      have I74 : jI9 σ64 := jI9_fr ((congrFun (f66 9 (of_decide_eq_true rfl)) 0).trans (congrFun (f50 9 (of_decide_eq_true rfl)) 0)) ((f66 10 (of_decide_eq_true rfl)).trans (f50 10 (of_decide_eq_true rfl))) ((f66 11 (of_decide_eq_true rfl)).trans (f50 11 (of_decide_eq_true rfl))) hI9
      have I75 : jI12 σ64 := jI12_fr ((congrFun (f66 12 (of_decide_eq_true rfl)) 0).trans (congrFun (f50 12 (of_decide_eq_true rfl)) 0)) ((f66 13 (of_decide_eq_true rfl)).trans (f50 13 (of_decide_eq_true rfl))) hI12
      have I76 : jI16 σ64 := jI16_fr ((congrFun (f66 16 (of_decide_eq_true rfl)) 0).trans (congrFun (f50 16 (of_decide_eq_true rfl)) 0)) ((congrFun (f66 16 (of_decide_eq_true rfl)) 1).trans (congrFun (f50 16 (of_decide_eq_true rfl)) 1)) ((congrFun (f66 16 (of_decide_eq_true rfl)) 2).trans (congrFun (f50 16 (of_decide_eq_true rfl)) 2)) ((f66 17 (of_decide_eq_true rfl)).trans (f50 17 (of_decide_eq_true rfl))) hI16
      have I77 : jI18 σ64 := jI18_fr ((congrFun (f66 18 (of_decide_eq_true rfl)) 0).trans (congrFun (f50 18 (of_decide_eq_true rfl)) 0)) ((f66 19 (of_decide_eq_true rfl)).trans (f50 19 (of_decide_eq_true rfl))) hI18
      have I78 : jI22 σ64 := jI22_fr ((congrFun (f66 22 (of_decide_eq_true rfl)) 0).trans (congrFun (f50 22 (of_decide_eq_true rfl)) 0)) ((f66 23 (of_decide_eq_true rfl)).trans (f50 23 (of_decide_eq_true rfl))) hI22
      exact by
       have I79 : jI31 σ64 := jI31_fr (congrFun (f66 31 (of_decide_eq_true rfl)) 8) (f66 33 (of_decide_eq_true rfl)) (f66 36 (of_decide_eq_true rfl)) I52
       have I80 : jI38 σ64 := jI38_fr ((congrFun (f66 38 (of_decide_eq_true rfl)) 0).trans (congrFun (f50 38 (of_decide_eq_true rfl)) 0)) ((congrFun (f66 38 (of_decide_eq_true rfl)) 1).trans (congrFun (f50 38 (of_decide_eq_true rfl)) 1)) ((f66 39 (of_decide_eq_true rfl)).trans (f50 39 (of_decide_eq_true rfl))) hI38
       have I81 : jI43 σ64 := jI43_fr ((congrFun (f66 43 (of_decide_eq_true rfl)) 8).trans (congrFun (f50 43 (of_decide_eq_true rfl)) 8)) hI43
       have I82 : jI47 σ64 := jI47_fr ((congrFun (f66 47 (of_decide_eq_true rfl)) 0).trans (congrFun (f50 47 (of_decide_eq_true rfl)) 0)) ((f66 48 (of_decide_eq_true rfl)).trans (f50 48 (of_decide_eq_true rfl))) ((f66 49 (of_decide_eq_true rfl)).trans (f50 49 (of_decide_eq_true rfl))) hI47
       have I83 : jI50 σ64 := jI50_fr ((f66 52 (of_decide_eq_true rfl)).trans (f50 52 (of_decide_eq_true rfl))) hI50
       have I84 : jI101 σ64 := jI101_fr (f67 4 (of_decide_eq_true rfl)) (f67 5 (of_decide_eq_true rfl)) (f66 56 (of_decide_eq_true rfl)) (f66 57 (of_decide_eq_true rfl)) (f66 58 (of_decide_eq_true rfl)) (f66 59 (of_decide_eq_true rfl)) I54
       have I85 : jI102 σ64 := jI102_fr (f67 6 (of_decide_eq_true rfl)) (f66 60 (of_decide_eq_true rfl)) (f66 61 (of_decide_eq_true rfl)) I55
       have I86 : jI103 σ64 := jI103_fr (f67 9 (of_decide_eq_true rfl)) I56
       have I87 : jI104 σ64 := jI104_fr (f67 10 (of_decide_eq_true rfl)) (f67 12 (of_decide_eq_true rfl)) (f67 13 (of_decide_eq_true rfl)) (f66 62 (of_decide_eq_true rfl)) (f66 67 (of_decide_eq_true rfl)) I57
       have I88 : jI105 σ64 := jI105_fr (f67 15 (of_decide_eq_true rfl)) (f66 65 (of_decide_eq_true rfl)) I58
       have I89 : jI106 σ64 := jI106_fr (f67 32 (of_decide_eq_true rfl)) (f66 70 (of_decide_eq_true rfl)) (f66 71 (of_decide_eq_true rfl)) (f66 72 (of_decide_eq_true rfl)) I59
       have I90 : jI107 σ64 := jI107_fr (f67 12 (of_decide_eq_true rfl)) (f67 47 (of_decide_eq_true rfl)) (f66 80 (of_decide_eq_true rfl)) I60
       have I91 : jI109 σ64 := jI109_fr ((f67 50 (of_decide_eq_true rfl)).trans (congrFun (f50 55 (of_decide_eq_true rfl)) 50)) hI109
       have I92 : jI110 σ64 := jI110_fr ((f66 86 (of_decide_eq_true rfl)).trans (f50 86 (of_decide_eq_true rfl))) ((f66 87 (of_decide_eq_true rfl)).trans (f50 87 (of_decide_eq_true rfl))) hI110
       have I93 : jI111 σ64 := jI111_fr ((f66 79 (of_decide_eq_true rfl)).trans (f50 79 (of_decide_eq_true rfl))) hI111
       have z94 : (σ64 2 0).toInt = (σ 2 0).toInt := (congrArg Int32.toInt (show σ64 2 0 = (σ 2 0) from ((congrFun (f66 2 (of_decide_eq_true rfl)) 0).trans (congrFun (f50 2 (of_decide_eq_true rfl)) 0))))
       have z95 : (σ64 55 6).toInt = (σ 55 6).toInt := (congrArg Int32.toInt (show σ64 55 6 = (σ 55 6) from ((f67 6 (of_decide_eq_true rfl)).trans (congrFun (f50 55 (of_decide_eq_true rfl)) 6))))
       have z96 : (σ64 2 2).toInt = (σ 2 2).toInt := (congrArg Int32.toInt (show σ64 2 2 = (σ 2 2) from ((congrFun (f66 2 (of_decide_eq_true rfl)) 2).trans (congrFun (f50 2 (of_decide_eq_true rfl)) 2))))
       have z97 : (σ64 55 5).toInt = (σ 55 5).toInt := (congrArg Int32.toInt (show σ64 55 5 = (σ 55 5) from ((f67 5 (of_decide_eq_true rfl)).trans (congrFun (f50 55 (of_decide_eq_true rfl)) 5))))
       have z98 : (σ64 2 3).toInt = (σ 2 3).toInt := (congrArg Int32.toInt (show σ64 2 3 = (σ 2 3) from ((congrFun (f66 2 (of_decide_eq_true rfl)) 3).trans (congrFun (f50 2 (of_decide_eq_true rfl)) 3))))
       have z99 : (σ64 55 4).toInt = (σ 55 4).toInt := (congrArg Int32.toInt (show σ64 55 4 = (σ 55 4) from ((f67 4 (of_decide_eq_true rfl)).trans (congrFun (f50 55 (of_decide_eq_true rfl)) 4))))
       have z100 : (σ64 9 0).toInt = (σ 9 0).toInt := (congrArg Int32.toInt (show σ64 9 0 = (σ 9 0) from ((congrFun (f66 9 (of_decide_eq_true rfl)) 0).trans (congrFun (f50 9 (of_decide_eq_true rfl)) 0))))
       have z101 : (σ64 55 15).toInt = (σ 55 15).toInt := (congrArg Int32.toInt (show σ64 55 15 = (σ 55 15) from ((f67 15 (of_decide_eq_true rfl)).trans (congrFun (f50 55 (of_decide_eq_true rfl)) 15))))
       have z102 : (σ64 16 0).toInt = (σ 16 0).toInt := (congrArg Int32.toInt (show σ64 16 0 = (σ 16 0) from ((congrFun (f66 16 (of_decide_eq_true rfl)) 0).trans (congrFun (f50 16 (of_decide_eq_true rfl)) 0))))
       have z103 : (σ64 55 10).toInt = (σ 55 10).toInt := (congrArg Int32.toInt (show σ64 55 10 = (σ 55 10) from ((f67 10 (of_decide_eq_true rfl)).trans (congrFun (f50 55 (of_decide_eq_true rfl)) 10))))
       have z104 : (σ64 16 1).toInt = (σ 16 1).toInt := (congrArg Int32.toInt (show σ64 16 1 = (σ 16 1) from ((congrFun (f66 16 (of_decide_eq_true rfl)) 1).trans (congrFun (f50 16 (of_decide_eq_true rfl)) 1))))
       have z105 : (σ64 55 12).toInt = (σ 55 12).toInt := (congrArg Int32.toInt (show σ64 55 12 = (σ 55 12) from ((f67 12 (of_decide_eq_true rfl)).trans (congrFun (f50 55 (of_decide_eq_true rfl)) 12))))
       have z106 : (σ64 16 2).toInt = (σ 16 2).toInt := (congrArg Int32.toInt (show σ64 16 2 = (σ 16 2) from ((congrFun (f66 16 (of_decide_eq_true rfl)) 2).trans (congrFun (f50 16 (of_decide_eq_true rfl)) 2))))
       have z107 : (σ64 55 13).toInt = (σ 55 13).toInt := (congrArg Int32.toInt (show σ64 55 13 = (σ 55 13) from ((f67 13 (of_decide_eq_true rfl)).trans (congrFun (f50 55 (of_decide_eq_true rfl)) 13))))
       have z108 : (σ64 38 0).toInt = (σ 38 0).toInt := (congrArg Int32.toInt (show σ64 38 0 = (σ 38 0) from ((congrFun (f66 38 (of_decide_eq_true rfl)) 0).trans (congrFun (f50 38 (of_decide_eq_true rfl)) 0))))
       have z109 : (σ64 55 32).toInt = (σ 55 32).toInt := (congrArg Int32.toInt (show σ64 55 32 = (σ 55 32) from ((f67 32 (of_decide_eq_true rfl)).trans (congrFun (f50 55 (of_decide_eq_true rfl)) 32))))
       have z110 : (σ64 38 1).toInt = (σ 38 1).toInt := (congrArg Int32.toInt (show σ64 38 1 = (σ 38 1) from ((congrFun (f66 38 (of_decide_eq_true rfl)) 1).trans (congrFun (f50 38 (of_decide_eq_true rfl)) 1))))
       have z111 : (σ64 55 55).toInt = (σ 55 55).toInt := (congrArg Int32.toInt (show σ64 55 55 = (σ 55 55) from ((f67 55 (of_decide_eq_true rfl)).trans (congrFun (f50 55 (of_decide_eq_true rfl)) 55))))
       have z112 : (σ64 47 0).toInt = (σ 47 0).toInt := (congrArg Int32.toInt (show σ64 47 0 = (σ 47 0) from ((congrFun (f66 47 (of_decide_eq_true rfl)) 0).trans (congrFun (f50 47 (of_decide_eq_true rfl)) 0))))
       have z113 : (σ64 55 47).toInt = (σ 55 47).toInt := (congrArg Int32.toInt (show σ64 55 47 = (σ 55 47) from ((f67 47 (of_decide_eq_true rfl)).trans (congrFun (f50 55 (of_decide_eq_true rfl)) 47))))
       have z114 : (σ64 55 30).toInt = (σ 55 30).toInt := (congrArg Int32.toInt (show σ64 55 30 = (σ 55 30) from ((f67 30 (of_decide_eq_true rfl)).trans (congrFun (f50 55 (of_decide_eq_true rfl)) 30))))
       have z115 : (σ64 55 31).toInt = (σ 55 31).toInt := (congrArg Int32.toInt (show σ64 55 31 = (σ 55 31) from ((f67 31 (of_decide_eq_true rfl)).trans (congrFun (f50 55 (of_decide_eq_true rfl)) 31))))
       exact by exact ih x72 σ64 τ _ _ ls (by have h9 := tx72; omega) ⟨I73, I74, I75, I76, I77, I78, I79, I80, I81, I82, I83, I84, I85, I86, I87, I88, I89, I90, I91, I92, I93, I68, p69, p70, (by omega), (by omega), (by omega), (by omega), (by omega), (by omega), (by omega), (by omega), (by omega), (by omega), (by omega), (by omega), (show jNumP (σ64 3) (σ64 56) (σ64 6) (σ64 57) (σ64 7) (σ64 58) (σ64 8) (σ64 59) (σ64 55 6).toInt (σ64 55 4).toInt by rw [show σ64 3 = σ 3 from ((f66 3 (of_decide_eq_true rfl)).trans (f50 3 (of_decide_eq_true rfl))), show σ64 56 = σ 56 from ((f66 56 (of_decide_eq_true rfl)).trans (f50 56 (of_decide_eq_true rfl))), show σ64 6 = σ 6 from ((f66 6 (of_decide_eq_true rfl)).trans (f50 6 (of_decide_eq_true rfl))), show σ64 57 = σ 57 from ((f66 57 (of_decide_eq_true rfl)).trans (f50 57 (of_decide_eq_true rfl))), show σ64 7 = σ 7 from ((f66 7 (of_decide_eq_true rfl)).trans (f50 7 (of_decide_eq_true rfl))), show σ64 58 = σ 58 from ((f66 58 (of_decide_eq_true rfl)).trans (f50 58 (of_decide_eq_true rfl))), show σ64 8 = σ 8 from ((f66 8 (of_decide_eq_true rfl)).trans (f50 8 (of_decide_eq_true rfl))), show σ64 59 = σ 59 from ((f66 59 (of_decide_eq_true rfl)).trans (f50 59 (of_decide_eq_true rfl))), show (σ64 55 6).toInt = (σ 55 6).toInt from by omega, show (σ64 55 4).toInt = (σ 55 4).toInt from by omega]; exact hr0), (show jOvP (σ64 56) (σ64 57) (σ64 58) (σ64 59) (σ64 55 4).toInt by rw [show σ64 56 = σ 56 from ((f66 56 (of_decide_eq_true rfl)).trans (f50 56 (of_decide_eq_true rfl))), show σ64 57 = σ 57 from ((f66 57 (of_decide_eq_true rfl)).trans (f50 57 (of_decide_eq_true rfl))), show σ64 58 = σ 58 from ((f66 58 (of_decide_eq_true rfl)).trans (f50 58 (of_decide_eq_true rfl))), show σ64 59 = σ 59 from ((f66 59 (of_decide_eq_true rfl)).trans (f50 59 (of_decide_eq_true rfl))), show (σ64 55 4).toInt = (σ 55 4).toInt from by omega]; exact hr1), (show jTp (σ64 10) (σ64 63) (σ64 55 15).toInt by rw [show σ64 10 = σ 10 from ((f66 10 (of_decide_eq_true rfl)).trans (f50 10 (of_decide_eq_true rfl))), show σ64 63 = σ 63 from ((f66 63 (of_decide_eq_true rfl)).trans (f50 63 (of_decide_eq_true rfl)))]; exact hr2.le (by omega)), (show jSo (σ64 17) (σ64 62) (σ64 16 0).toInt by rw [show σ64 17 = σ 17 from ((f66 17 (of_decide_eq_true rfl)).trans (f50 17 (of_decide_eq_true rfl))), show σ64 62 = σ 62 from ((f66 62 (of_decide_eq_true rfl)).trans (f50 62 (of_decide_eq_true rfl))), show (σ64 16 0).toInt = (σ 16 0).toInt from by omega]; exact hr3), (show jShP (σ64 51) (σ64 52) (σ64 53) (σ64 86) (σ64 87) (σ64 55 32).toInt by rw [show σ64 51 = σ 51 from ((f66 51 (of_decide_eq_true rfl)).trans (f50 51 (of_decide_eq_true rfl))), show σ64 52 = σ 52 from ((f66 52 (of_decide_eq_true rfl)).trans (f50 52 (of_decide_eq_true rfl))), show σ64 53 = σ 53 from ((f66 53 (of_decide_eq_true rfl)).trans (f50 53 (of_decide_eq_true rfl))), show σ64 86 = σ 86 from ((f66 86 (of_decide_eq_true rfl)).trans (f50 86 (of_decide_eq_true rfl))), show σ64 87 = σ 87 from ((f66 87 (of_decide_eq_true rfl)).trans (f50 87 (of_decide_eq_true rfl)))]; exact (hr4.up (by omega) (by omega))), (show jEl (σ64 51) (σ64 52) (τ 54) (τ 88) by rw [show σ64 51 = σ 51 from ((f66 51 (of_decide_eq_true rfl)).trans (f50 51 (of_decide_eq_true rfl))), show σ64 52 = σ 52 from ((f66 52 (of_decide_eq_true rfl)).trans (f50 52 (of_decide_eq_true rfl)))]; exact hr5), (show jByP (σ64 51) (σ64 52) (τ 54) by rw [show σ64 51 = σ 51 from ((f66 51 (of_decide_eq_true rfl)).trans (f50 51 (of_decide_eq_true rfl))), show σ64 52 = σ 52 from ((f66 52 (of_decide_eq_true rfl)).trans (f50 52 (of_decide_eq_true rfl)))]; exact hr6), (show jBk (σ64 48) (σ64 80) (σ64 49) (σ64 81) (σ64 55 47).toInt by rw [show σ64 48 = σ 48 from ((f66 48 (of_decide_eq_true rfl)).trans (f50 48 (of_decide_eq_true rfl))), show σ64 49 = σ 49 from ((f66 49 (of_decide_eq_true rfl)).trans (f50 49 (of_decide_eq_true rfl))), show σ64 80 = σ 80 from ((f66 80 (of_decide_eq_true rfl)).trans (f50 80 (of_decide_eq_true rfl))), show σ64 81 = σ 81 from ((f66 81 (of_decide_eq_true rfl)).trans (f50 81 (of_decide_eq_true rfl))), show (σ64 55 47).toInt = (σ 55 47).toInt from by omega]; exact hr7), (show jKd (σ64 39) (σ64 70) (σ64 55 32).toInt by rw [show σ64 39 = σ 39 from ((f66 39 (of_decide_eq_true rfl)).trans (f50 39 (of_decide_eq_true rfl))), show σ64 70 = σ 70 from ((f66 70 (of_decide_eq_true rfl)).trans (f50 70 (of_decide_eq_true rfl))), show (σ64 55 32).toInt = (σ 55 32).toInt from by omega]; exact hr8), (show jTt (σ64 42) (σ64 85) (σ64 55 55).toInt by rw [show σ64 42 = σ 42 from ((f66 42 (of_decide_eq_true rfl)).trans (f50 42 (of_decide_eq_true rfl))), show σ64 85 = σ 85 from ((f66 85 (of_decide_eq_true rfl)).trans (f50 85 (of_decide_eq_true rfl))), show (σ64 55 55).toInt = (σ 55 55).toInt from by omega]; exact hr9)⟩ hP hS (lv_sub hl [0, 1, 2, 3] rfl)
set_option maxHeartbeats 4000000 in
set_option maxRecDepth 100000 in
theorem law_case_14 {p : Program} {e : Env} {s : State} {m : MethodId} {below : List Frame} {meth : Method} {c : Code} (l : Launch) {b L : Nat} {xs : Nat → Int32} {D : va_G} {cI cL : ClassId} {ad zz : Nat → Nat} (C0 : lw_At p s m meth c b L xs) (hJ : jD ad) (hA : ∀ q, jA ad q → s.heap.size ≤ q) (hK : jK D cI cL s) (hZ : jZ zz (fun q : Nat => s.heap.size ≤ q) s s.heap) {x0 : Int32} (hx0 : 0 ≤ x0.toInt) (hxL : x0.toInt + 6 ≤ (L : Int)) (hL : L ≤ 384) {σ : Nat → Nat → Int32} {τ : Nat → Nat → Int64} {H : Heap} {locs : List Loc} (hS : va_S (fun q : Nat => s.heap.size ≤ q) s.heap H locs) {ls : Array Slot} (hAll : jAll σ τ) (hP : jH D cI cL ad σ τ H) (hl : lv_has ls 4 [(3, .int x0), (2, .ref (ad 55)), (1, .ref (ad 0)), (0, .ref b)]) (ih : ∀ (x1 : Int32) (σ : Nat → Nat → Int32) (τ : Nat → Nat → Int64) (H : Heap) (locs : List Loc) (ls : Array Slot), x1.toInt = x0.toInt + 6 → jAll σ τ → jH D cI cL ad σ τ H → va_S (fun q : Nat => s.heap.size ≤ q) s.heap H locs → lv_has ls 4 [(3, .int x1), (2, .ref (ad 55)), (1, .ref (ad 0)), (0, .ref b)] → W p l e room_1 s m #[Value.ref b] below meth c H locs 90 348600 (lw_Z below #[Value.ref b] s) (F0 m 18 ls [])) : W p l e room_1 s m #[Value.ref b] below meth c H locs 90 348600 (lw_Z below #[Value.ref b] s) (F0 m 628 ls []) := by
  obtain ⟨hx, hb, hr, hml, hown, hts0, hX, hbl, hlocks, hgv⟩ := C0
  have hts : ∀ w ∈ wsL_law, w.before #[Value.ref b] s = true := fun w h => hts0 w (wsL_law_in w h)
  have hbA : ¬ (fun q : Nat => s.heap.size ≤ q) b := Nat.not_le.mpr hbl
  have hown : s.vm.findClass RL = some m.cls := hown
  obtain ⟨hI2, hI9, hI12, hI16, hI18, hI22, hI31, hI38, hI43, hI47, hI50, hI101, hI102, hI103, hI104, hI105, hI106, hI107, hI109, hI110, hI111, hI119, hs_jKept, hs_jBook, ht0, ht1, ht2, ht3, ht4, ht5, ht6, ht7, ht8, ht9, ht10, ht11, hr0, hr1, hr2, hr3, hr4, hr5, hr6, hr7, hr8, hr9⟩ := hAll
  have hL9 : (L : Int) ≤ 384 := by omega
  obtain ⟨i1, i2, i3, i4, i5, w6⟩ : (0 ≤ (σ 2 0).toInt ∧ (σ 2 0).toInt ≤ 4) ∧ (0 ≤ (σ 2 1).toInt ∧ (σ 2 1).toInt ≤ 3) ∧ (0 ≤ (σ 2 2).toInt) ∧ (0 ≤ (σ 2 3).toInt) ∧ ((σ 2 2).toInt + (σ 2 3).toInt ≤ 40) ∧ (∀ k : Nat, k < 40 → 0 ≤ (σ 6 k).toInt ∧ (σ 6 k).toInt ≤ 67) := id hI2
  obtain ⟨i7, w8, w9⟩ : (0 ≤ (σ 9 0).toInt ∧ (σ 9 0).toInt ≤ 80) ∧ (∀ k : Nat, k < 80 → 0 ≤ (σ 10 k).toInt ∧ (σ 10 k).toInt ≤ 255) ∧ (∀ k : Nat, k < 8 → 0 ≤ (σ 11 k).toInt ∧ (σ 11 k).toInt ≤ 3) := id hI9
  obtain ⟨i10, i11, i12, w13⟩ : (1 ≤ (σ 16 0).toInt ∧ (σ 16 0).toInt ≤ 8) ∧ (1 ≤ (σ 16 1).toInt ∧ (σ 16 1).toInt ≤ 12) ∧ (0 ≤ (σ 16 2).toInt ∧ (σ 16 2).toInt ≤ 999) ∧ (∀ k : Nat, k < 8 → 0 ≤ (σ 17 k).toInt ∧ (σ 17 k).toInt ≤ 3) := id hI16
  obtain ⟨i14, i15, w16⟩ : (0 ≤ (σ 38 0).toInt ∧ (σ 38 0).toInt ≤ 20) ∧ (0 ≤ (σ 38 1).toInt ∧ (σ 38 1).toInt ≤ 1000) ∧ (∀ k : Nat, k < 20 → 0 ≤ (σ 39 k).toInt ∧ (σ 39 k).toInt ≤ 6) := id hI38
  obtain ⟨i17, w18, w19⟩ : (0 ≤ (σ 47 0).toInt ∧ (σ 47 0).toInt ≤ 12) ∧ (∀ k : Nat, k < 12 → 0 ≤ (σ 48 k).toInt ∧ (σ 48 k).toInt ≤ 3) ∧ (∀ k : Nat, k < 12 → 0 ≤ (σ 49 k).toInt ∧ (σ 49 k).toInt ≤ 1) := id hI47
  have w20 : ∀ k : Nat, k < 6 → 0 ≤ (σ 52 k).toInt ∧ (σ 52 k).toInt ≤ 60 := hI50
  obtain ⟨i21, i22, i23, w24, w25, w26, w27⟩ : (0 ≤ (σ 55 5).toInt) ∧ ((σ 55 5).toInt ≤ (σ 55 4).toInt) ∧ ((σ 55 4).toInt ≤ 40) ∧ (∀ k : Nat, k < 68 → (-200) ≤ (σ 56 k).toInt ∧ (σ 56 k).toInt ≤ 500) ∧ (∀ k : Nat, k < 40 → 0 ≤ (σ 57 k).toInt ∧ (σ 57 k).toInt ≤ 67) ∧ (∀ k : Nat, k < 40 → (-200) ≤ (σ 58 k).toInt ∧ (σ 58 k).toInt ≤ 500) ∧ (∀ k : Nat, k < 40 → (-200) ≤ (σ 59 k).toInt ∧ (σ 59 k).toInt ≤ 500) := id hI101
  obtain ⟨i28, w29, w30⟩ : (0 ≤ (σ 55 6).toInt ∧ (σ 55 6).toInt ≤ 4) ∧ (∀ k : Nat, k < 4 → 0 ≤ (σ 60 k).toInt ∧ (σ 60 k).toInt ≤ 50) ∧ (∀ k : Nat, k < 4 → 0 ≤ (σ 61 k).toInt ∧ (σ 61 k).toInt ≤ 20) := id hI102
  obtain ⟨i31, i32, i33, w34, w35⟩ : (1 ≤ (σ 55 10).toInt ∧ (σ 55 10).toInt ≤ 8) ∧ (1 ≤ (σ 55 12).toInt ∧ (σ 55 12).toInt ≤ 12) ∧ (0 ≤ (σ 55 13).toInt ∧ (σ 55 13).toInt ≤ 999) ∧ (∀ k : Nat, k < 8 → 0 ≤ (σ 62 k).toInt ∧ (σ 62 k).toInt ≤ 3) ∧ (∀ k : Nat, k < 8 → 0 ≤ (σ 67 k).toInt ∧ (σ 67 k).toInt ≤ 3) := id hI104
  obtain ⟨i36, w37⟩ : (0 ≤ (σ 55 15).toInt ∧ (σ 55 15).toInt ≤ 80) ∧ (∀ k : Nat, k < 2 → (-1) ≤ (σ 65 k).toInt ∧ (σ 65 k).toInt ≤ 80) := id hI105
  obtain ⟨i38, w39, w40, w41⟩ : (0 ≤ (σ 55 32).toInt ∧ (σ 55 32).toInt ≤ 20) ∧ (∀ k : Nat, k < 20 → 0 ≤ (σ 70 k).toInt ∧ (σ 70 k).toInt ≤ 6) ∧ (∀ k : Nat, k < 20 → 0 ≤ (σ 71 k).toInt ∧ (σ 71 k).toInt ≤ 8) ∧ (∀ k : Nat, k < 160 → 0 ≤ (σ 72 k).toInt ∧ (σ 72 k).toInt ≤ 3) := id hI106
  obtain ⟨i42, i43, w44⟩ : (0 ≤ (σ 55 47).toInt ∧ (σ 55 47).toInt ≤ 12) ∧ ((σ 55 47).toInt ≤ (σ 55 12).toInt) ∧ (∀ k : Nat, k < 12 → 0 ≤ (σ 80 k).toInt ∧ (σ 80 k).toInt ≤ 3) := id hI107
  refine lv_aload_n hx hb dL_law_628 rfl (lv_at hl 2 rfl) ?_
  refine lv_aload_n hx hb dL_law_629 rfl (lv_at hl 3 rfl) ?_
  refine lv_iload_n hx hb dL_law_630 rfl (lv_at hl 0 rfl) ?_
  refine lv_iconst (v := 1) hx hb dL_law_631 (of_decide_eq_true rfl) ?_
  have g45 := jrg (rfl : x0.toInt = x0.toInt)
  refine lv_iadd hx hb dL_law_632 ?_
  refine lv_topi (fun x46 ex46 => ?_)
  exact by
   have tx46 : x46.toInt = x0.toInt + 1 := (jadd ex46 rfl jz_1 (by omega) (by omega)).trans (by omega)
   refine va_sld hx hb hX hbl hbA hS (jin tx46 (by omega) (by omega)) dL_law_633 ?_
   have g47 := jrg (rfl : (xs x46.toNatClampNeg).toInt = (xs x46.toNatClampNeg).toInt)
   refine lv_aload_n hx hb dL_law_634 rfl (lv_at hl 3 rfl) ?_
   refine lv_iload_n hx hb dL_law_635 rfl (lv_at hl 0 rfl) ?_
   refine lv_iconst (v := 2) hx hb dL_law_636 (of_decide_eq_true rfl) ?_
   refine lv_iadd hx hb dL_law_637 ?_
   refine lv_topi (fun x48 ex48 => ?_)
   have tx48 : x48.toInt = x0.toInt + 2 := (jadd ex48 rfl jz_2 (by omega) (by omega)).trans (by omega)
   exact by
    refine va_sld hx hb hX hbl hbA hS (jin tx48 (by omega) (by omega)) dL_law_638 ?_
    have g49 := jrg (rfl : (xs x48.toNatClampNeg).toInt = (xs x48.toNatClampNeg).toInt)
    refine jcallV (As := [.int (xs x46.toNatClampNeg), .int (xs x48.toNatClampNeg)]) (rest := []) ⟨hx, hb, hml, hown, hts⟩ hK hP hA hS hZ (c_X11_worth l D cI cL ad zz hJ σ τ (xs x46.toNatClampNeg) ((xs x46.toNatClampNeg).toInt) rfl (xs x48.toNatClampNeg) ((xs x48.toNatClampNeg).toInt) rfl hI2 hI16 hI22 hI31) cw_RL_73 (jc_0 cI cL ad σ τ) rfl ⟨Nat.le_of_ble_eq_true rfl, Nat.le_of_ble_eq_true rfl⟩ rfl rfl rfl hl.1 rfl (Nat.le_of_ble_eq_true rfl) dL_law_639 ⟨Nat.le_of_ble_eq_true rfl, Nat.le_of_ble_eq_true rfl⟩ (fun r51 σ50 τ50 H locs h50 hP hS => ?_)
    obtain ⟨rfl, f52, f53, I54, h50⟩ := h50
    refine lv_pop hx hb dL_law_642 rfl ?_
    refine lv_aload_n hx hb dL_law_643 rfl (lv_at hl 1 rfl) ?_
    refine lv_aload_n hx hb dL_law_644 rfl (lv_at hl 3 rfl) ?_
    refine lv_iload_n hx hb dL_law_645 rfl (lv_at hl 0 rfl) ?_
    refine lv_iconst (v := 1) hx hb dL_law_646 (of_decide_eq_true rfl) ?_
    refine lv_iadd hx hb dL_law_647 ?_
    refine jtopr ex46.symm ?_
    exact by
     refine va_sld hx hb hX hbl hbA hS (jin tx46 (by omega) (by omega)) dL_law_648 ?_
     refine lv_aload_n hx hb dL_law_649 rfl (lv_at hl 3 rfl) ?_
     refine lv_iload_n hx hb dL_law_650 rfl (lv_at hl 0 rfl) ?_
     refine lv_iconst (v := 2) hx hb dL_law_651 (of_decide_eq_true rfl) ?_
     refine lv_iadd hx hb dL_law_652 ?_
     refine jtopr ex48.symm ?_
     refine va_sld hx hb hX hbl hbA hS (jin tx48 (by omega) (by omega)) dL_law_653 ?_
     have I56 : jI101 σ50 := jI101_fr (congrFun (f52 55 (of_decide_eq_true rfl)) 4) (congrFun (f52 55 (of_decide_eq_true rfl)) 5) (f52 56 (of_decide_eq_true rfl)) (f52 57 (of_decide_eq_true rfl)) (f52 58 (of_decide_eq_true rfl)) (f52 59 (of_decide_eq_true rfl)) hI101
     have I57 : jI102 σ50 := jI102_fr (congrFun (f52 55 (of_decide_eq_true rfl)) 6) (f52 60 (of_decide_eq_true rfl)) (f52 61 (of_decide_eq_true rfl)) hI102
     exact by
      have I58 : jI103 σ50 := jI103_fr (congrFun (f52 55 (of_decide_eq_true rfl)) 9) hI103
      have I59 : jI104 σ50 := jI104_fr (congrFun (f52 55 (of_decide_eq_true rfl)) 10) (congrFun (f52 55 (of_decide_eq_true rfl)) 12) (congrFun (f52 55 (of_decide_eq_true rfl)) 13) (f52 62 (of_decide_eq_true rfl)) (f52 67 (of_decide_eq_true rfl)) hI104
      have I60 : jI105 σ50 := jI105_fr (congrFun (f52 55 (of_decide_eq_true rfl)) 15) (f52 65 (of_decide_eq_true rfl)) hI105
      have I61 : jI106 σ50 := jI106_fr (congrFun (f52 55 (of_decide_eq_true rfl)) 32) (f52 70 (of_decide_eq_true rfl)) (f52 71 (of_decide_eq_true rfl)) (f52 72 (of_decide_eq_true rfl)) hI106
      have I62 : jI119 σ50 := jI119_fr (f52 68 (of_decide_eq_true rfl)) hI119
      have p63 : jKept σ50 := jKept.fr (f52 75 (of_decide_eq_true rfl)) (f52 76 (of_decide_eq_true rfl)) (f52 77 (of_decide_eq_true rfl)) hs_jKept
      have z64 : (σ50 55 30).toInt = (σ 55 30).toInt := (congrArg Int32.toInt (show σ50 55 30 = (σ 55 30) from (congrFun (f52 55 (of_decide_eq_true rfl)) 30)))
      have z65 : (σ50 55 31).toInt = (σ 55 31).toInt := (congrArg Int32.toInt (show σ50 55 31 = (σ 55 31) from (congrFun (f52 55 (of_decide_eq_true rfl)) 31)))
      refine jcallV (As := [.int (xs x46.toNatClampNeg), .int (xs x48.toNatClampNeg)]) (rest := []) ⟨hx, hb, hml, hown, hts⟩ hK hP hA hS hZ (c_X12_worth l D cI cL ad zz hJ σ50 τ (xs x46.toNatClampNeg) ((xs x46.toNatClampNeg).toInt) rfl (xs x48.toNatClampNeg) ((xs x48.toNatClampNeg).toInt) rfl I56 I57 I58 I59 I60 I61 I62 p63) cw_RL_76 (jc_55 cI cL ad σ50 τ) rfl ⟨Nat.le_of_ble_eq_true rfl, Nat.le_of_ble_eq_true rfl⟩ rfl rfl rfl hl.1 rfl (Nat.le_of_ble_eq_true rfl) dL_law_654 ⟨Nat.le_of_ble_eq_true rfl, Nat.le_of_ble_eq_true rfl⟩ (fun r67 σ66 τ66 H locs h66 hP hS => ?_)
      obtain ⟨rfl, f68, f69, I70, p71, h66⟩ := h66
      obtain ⟨k73, h66⟩ := h66
      refine lv_pop hx hb dL_law_657 rfl ?_
      refine lv_goto (tgt := 1357) hx hb dL_law_658 (of_decide_eq_true rfl) ?_
      obtain ⟨x74, ex74⟩ : ∃ y : Int32, y = x0 + 6 := ⟨_, rfl⟩
      exact by
       have tx74 : x74.toInt = x0.toInt + 6 := (jadd ex74 rfl jz_6 (by omega) (by omega)).trans (by omega)
       refine lv_iinc (v := x74) (lv' := [(3, .int x74), (2, .ref (ad 55)), (1, .ref (ad 0)), (0, .ref b)]) hx hb dL_law_1357 hl (k := 0) rfl (by rw [ex74]; rfl) (of_decide_eq_true rfl) rfl (fun ls hl => ?_)
       refine lv_goto (tgt := 18) hx hb dL_law_1360 (of_decide_eq_true rfl) ?_
       have I75 : jI2 σ66 := jI2_fr ((congrFun (f68 2 (of_decide_eq_true rfl)) 0).trans (congrFun (f52 2 (of_decide_eq_true rfl)) 0)) ((congrFun (f68 2 (of_decide_eq_true rfl)) 1).trans (congrFun (f52 2 (of_decide_eq_true rfl)) 1)) ((congrFun (f68 2 (of_decide_eq_true rfl)) 2).trans (congrFun (f52 2 (of_decide_eq_true rfl)) 2)) ((congrFun (f68 2 (of_decide_eq_true rfl)) 3).trans (congrFun (f52 2 (of_decide_eq_true rfl)) 3)) ((f68 6 (of_decide_eq_true rfl)).trans (f52 6 (of_decide_eq_true rfl))) hI2
       have I76 : jI9 σ66 := jI9_fr ((congrFun (f68 9 (of_decide_eq_true rfl)) 0).trans (congrFun (f52 9 (of_decide_eq_true rfl)) 0)) ((f68 10 (of_decide_eq_true rfl)).trans (f52 10 (of_decide_eq_true rfl))) ((f68 11 (of_decide_eq_true rfl)).trans (f52 11 (of_decide_eq_true rfl))) hI9
       have I77 : jI12 σ66 := jI12_fr ((congrFun (f68 12 (of_decide_eq_true rfl)) 0).trans (congrFun (f52 12 (of_decide_eq_true rfl)) 0)) ((f68 13 (of_decide_eq_true rfl)).trans (f52 13 (of_decide_eq_true rfl))) hI12
       have I78 : jI16 σ66 := jI16_fr ((congrFun (f68 16 (of_decide_eq_true rfl)) 0).trans (congrFun (f52 16 (of_decide_eq_true rfl)) 0)) ((congrFun (f68 16 (of_decide_eq_true rfl)) 1).trans (congrFun (f52 16 (of_decide_eq_true rfl)) 1)) ((congrFun (f68 16 (of_decide_eq_true rfl)) 2).trans (congrFun (f52 16 (of_decide_eq_true rfl)) 2)) ((f68 17 (of_decide_eq_true rfl)).trans (f52 17 (of_decide_eq_true rfl))) hI16
       have I79 : jI18 σ66 := jI18_fr ((congrFun (f68 18 (of_decide_eq_true rfl)) 0).trans (congrFun (f52 18 (of_decide_eq_true rfl)) 0)) ((f68 19 (of_decide_eq_true rfl)).trans (f52 19 (of_decide_eq_true rfl))) hI18
       have I80 : jI22 σ66 := jI22_fr ((congrFun (f68 22 (of_decide_eq_true rfl)) 0).trans (congrFun (f52 22 (of_decide_eq_true rfl)) 0)) ((f68 23 (of_decide_eq_true rfl)).trans (f52 23 (of_decide_eq_true rfl))) hI22
       exact by
        have I81 : jI31 σ66 := jI31_fr (congrFun (f68 31 (of_decide_eq_true rfl)) 8) (f68 33 (of_decide_eq_true rfl)) (f68 36 (of_decide_eq_true rfl)) I54
        have I82 : jI38 σ66 := jI38_fr ((congrFun (f68 38 (of_decide_eq_true rfl)) 0).trans (congrFun (f52 38 (of_decide_eq_true rfl)) 0)) ((congrFun (f68 38 (of_decide_eq_true rfl)) 1).trans (congrFun (f52 38 (of_decide_eq_true rfl)) 1)) ((f68 39 (of_decide_eq_true rfl)).trans (f52 39 (of_decide_eq_true rfl))) hI38
        have I83 : jI43 σ66 := jI43_fr ((congrFun (f68 43 (of_decide_eq_true rfl)) 8).trans (congrFun (f52 43 (of_decide_eq_true rfl)) 8)) hI43
        have I84 : jI47 σ66 := jI47_fr ((congrFun (f68 47 (of_decide_eq_true rfl)) 0).trans (congrFun (f52 47 (of_decide_eq_true rfl)) 0)) ((f68 48 (of_decide_eq_true rfl)).trans (f52 48 (of_decide_eq_true rfl))) ((f68 49 (of_decide_eq_true rfl)).trans (f52 49 (of_decide_eq_true rfl))) hI47
        have I85 : jI50 σ66 := jI50_fr ((f68 52 (of_decide_eq_true rfl)).trans (f52 52 (of_decide_eq_true rfl))) hI50
        have I86 : jI101 σ66 := jI101_fr (f69 4 (of_decide_eq_true rfl)) (f69 5 (of_decide_eq_true rfl)) (f68 56 (of_decide_eq_true rfl)) (f68 57 (of_decide_eq_true rfl)) (f68 58 (of_decide_eq_true rfl)) (f68 59 (of_decide_eq_true rfl)) I56
        have I87 : jI102 σ66 := jI102_fr (f69 6 (of_decide_eq_true rfl)) (f68 60 (of_decide_eq_true rfl)) (f68 61 (of_decide_eq_true rfl)) I57
        have I88 : jI103 σ66 := jI103_fr (f69 9 (of_decide_eq_true rfl)) I58
        have I89 : jI104 σ66 := jI104_fr (f69 10 (of_decide_eq_true rfl)) (f69 12 (of_decide_eq_true rfl)) (f69 13 (of_decide_eq_true rfl)) (f68 62 (of_decide_eq_true rfl)) (f68 67 (of_decide_eq_true rfl)) I59
        have I90 : jI105 σ66 := jI105_fr (f69 15 (of_decide_eq_true rfl)) (f68 65 (of_decide_eq_true rfl)) I60
        have I91 : jI106 σ66 := jI106_fr (f69 32 (of_decide_eq_true rfl)) (f68 70 (of_decide_eq_true rfl)) (f68 71 (of_decide_eq_true rfl)) (f68 72 (of_decide_eq_true rfl)) I61
        have I92 : jI107 σ66 := jI107_fr ((f69 12 (of_decide_eq_true rfl)).trans (congrFun (f52 55 (of_decide_eq_true rfl)) 12)) ((f69 47 (of_decide_eq_true rfl)).trans (congrFun (f52 55 (of_decide_eq_true rfl)) 47)) ((f68 80 (of_decide_eq_true rfl)).trans (f52 80 (of_decide_eq_true rfl))) hI107
        have I93 : jI109 σ66 := jI109_fr ((f69 50 (of_decide_eq_true rfl)).trans (congrFun (f52 55 (of_decide_eq_true rfl)) 50)) hI109
        have I94 : jI110 σ66 := jI110_fr ((f68 86 (of_decide_eq_true rfl)).trans (f52 86 (of_decide_eq_true rfl))) ((f68 87 (of_decide_eq_true rfl)).trans (f52 87 (of_decide_eq_true rfl))) hI110
        have I95 : jI111 σ66 := jI111_fr ((f68 79 (of_decide_eq_true rfl)).trans (f52 79 (of_decide_eq_true rfl))) hI111
        have p96 : jBook σ66 := jBook.fr ((f69 47 (of_decide_eq_true rfl)).trans (congrFun (f52 55 (of_decide_eq_true rfl)) 47)) ((f69 10 (of_decide_eq_true rfl)).trans (congrFun (f52 55 (of_decide_eq_true rfl)) 10)) ((f68 81 (of_decide_eq_true rfl)).trans (f52 81 (of_decide_eq_true rfl))) hs_jBook
        have z97 : (σ66 2 0).toInt = (σ 2 0).toInt := (congrArg Int32.toInt (show σ66 2 0 = (σ 2 0) from ((congrFun (f68 2 (of_decide_eq_true rfl)) 0).trans (congrFun (f52 2 (of_decide_eq_true rfl)) 0))))
        have z98 : (σ66 55 6).toInt = (σ 55 6).toInt := (congrArg Int32.toInt (show σ66 55 6 = (σ 55 6) from ((f69 6 (of_decide_eq_true rfl)).trans (congrFun (f52 55 (of_decide_eq_true rfl)) 6))))
        have z99 : (σ66 2 2).toInt = (σ 2 2).toInt := (congrArg Int32.toInt (show σ66 2 2 = (σ 2 2) from ((congrFun (f68 2 (of_decide_eq_true rfl)) 2).trans (congrFun (f52 2 (of_decide_eq_true rfl)) 2))))
        have z100 : (σ66 55 5).toInt = (σ 55 5).toInt := (congrArg Int32.toInt (show σ66 55 5 = (σ 55 5) from ((f69 5 (of_decide_eq_true rfl)).trans (congrFun (f52 55 (of_decide_eq_true rfl)) 5))))
        have z101 : (σ66 2 3).toInt = (σ 2 3).toInt := (congrArg Int32.toInt (show σ66 2 3 = (σ 2 3) from ((congrFun (f68 2 (of_decide_eq_true rfl)) 3).trans (congrFun (f52 2 (of_decide_eq_true rfl)) 3))))
        have z102 : (σ66 55 4).toInt = (σ 55 4).toInt := (congrArg Int32.toInt (show σ66 55 4 = (σ 55 4) from ((f69 4 (of_decide_eq_true rfl)).trans (congrFun (f52 55 (of_decide_eq_true rfl)) 4))))
        have z103 : (σ66 9 0).toInt = (σ 9 0).toInt := (congrArg Int32.toInt (show σ66 9 0 = (σ 9 0) from ((congrFun (f68 9 (of_decide_eq_true rfl)) 0).trans (congrFun (f52 9 (of_decide_eq_true rfl)) 0))))
        have z104 : (σ66 55 15).toInt = (σ 55 15).toInt := (congrArg Int32.toInt (show σ66 55 15 = (σ 55 15) from ((f69 15 (of_decide_eq_true rfl)).trans (congrFun (f52 55 (of_decide_eq_true rfl)) 15))))
        have z105 : (σ66 16 0).toInt = (σ 16 0).toInt := (congrArg Int32.toInt (show σ66 16 0 = (σ 16 0) from ((congrFun (f68 16 (of_decide_eq_true rfl)) 0).trans (congrFun (f52 16 (of_decide_eq_true rfl)) 0))))
        have z106 : (σ66 55 10).toInt = (σ 55 10).toInt := (congrArg Int32.toInt (show σ66 55 10 = (σ 55 10) from ((f69 10 (of_decide_eq_true rfl)).trans (congrFun (f52 55 (of_decide_eq_true rfl)) 10))))
        have z107 : (σ66 16 1).toInt = (σ 16 1).toInt := (congrArg Int32.toInt (show σ66 16 1 = (σ 16 1) from ((congrFun (f68 16 (of_decide_eq_true rfl)) 1).trans (congrFun (f52 16 (of_decide_eq_true rfl)) 1))))
        have z108 : (σ66 55 12).toInt = (σ 55 12).toInt := (congrArg Int32.toInt (show σ66 55 12 = (σ 55 12) from ((f69 12 (of_decide_eq_true rfl)).trans (congrFun (f52 55 (of_decide_eq_true rfl)) 12))))
        have z109 : (σ66 16 2).toInt = (σ 16 2).toInt := (congrArg Int32.toInt (show σ66 16 2 = (σ 16 2) from ((congrFun (f68 16 (of_decide_eq_true rfl)) 2).trans (congrFun (f52 16 (of_decide_eq_true rfl)) 2))))
        have z110 : (σ66 55 13).toInt = (σ 55 13).toInt := (congrArg Int32.toInt (show σ66 55 13 = (σ 55 13) from ((f69 13 (of_decide_eq_true rfl)).trans (congrFun (f52 55 (of_decide_eq_true rfl)) 13))))
        have z111 : (σ66 38 0).toInt = (σ 38 0).toInt := (congrArg Int32.toInt (show σ66 38 0 = (σ 38 0) from ((congrFun (f68 38 (of_decide_eq_true rfl)) 0).trans (congrFun (f52 38 (of_decide_eq_true rfl)) 0))))
        have z112 : (σ66 55 32).toInt = (σ 55 32).toInt := (congrArg Int32.toInt (show σ66 55 32 = (σ 55 32) from ((f69 32 (of_decide_eq_true rfl)).trans (congrFun (f52 55 (of_decide_eq_true rfl)) 32))))
        have z113 : (σ66 38 1).toInt = (σ 38 1).toInt := (congrArg Int32.toInt (show σ66 38 1 = (σ 38 1) from ((congrFun (f68 38 (of_decide_eq_true rfl)) 1).trans (congrFun (f52 38 (of_decide_eq_true rfl)) 1))))
        have z114 : (σ66 55 55).toInt = (σ 55 55).toInt := (congrArg Int32.toInt (show σ66 55 55 = (σ 55 55) from ((f69 55 (of_decide_eq_true rfl)).trans (congrFun (f52 55 (of_decide_eq_true rfl)) 55))))
        have z115 : (σ66 47 0).toInt = (σ 47 0).toInt := (congrArg Int32.toInt (show σ66 47 0 = (σ 47 0) from ((congrFun (f68 47 (of_decide_eq_true rfl)) 0).trans (congrFun (f52 47 (of_decide_eq_true rfl)) 0))))
        have z116 : (σ66 55 47).toInt = (σ 55 47).toInt := (congrArg Int32.toInt (show σ66 55 47 = (σ 55 47) from ((f69 47 (of_decide_eq_true rfl)).trans (congrFun (f52 55 (of_decide_eq_true rfl)) 47))))
        exact by exact ih x74 σ66 τ _ _ ls (by have h9 := tx74; omega) ⟨I75, I76, I77, I78, I79, I80, I81, I82, I83, I84, I85, I86, I87, I88, I89, I90, I91, I92, I93, I94, I95, I70, p71, p96, (by omega), (by omega), (by omega), (by omega), (by omega), (by omega), (by omega), (by omega), (by omega), (by omega), (by omega), (by omega), (show jNumP (σ66 3) (σ66 56) (σ66 6) (σ66 57) (σ66 7) (σ66 58) (σ66 8) (σ66 59) (σ66 55 6).toInt (σ66 55 4).toInt by rw [show σ66 3 = σ 3 from ((f68 3 (of_decide_eq_true rfl)).trans (f52 3 (of_decide_eq_true rfl))), show σ66 56 = σ 56 from ((f68 56 (of_decide_eq_true rfl)).trans (f52 56 (of_decide_eq_true rfl))), show σ66 6 = σ 6 from ((f68 6 (of_decide_eq_true rfl)).trans (f52 6 (of_decide_eq_true rfl))), show σ66 57 = σ 57 from ((f68 57 (of_decide_eq_true rfl)).trans (f52 57 (of_decide_eq_true rfl))), show σ66 7 = σ 7 from ((f68 7 (of_decide_eq_true rfl)).trans (f52 7 (of_decide_eq_true rfl))), show σ66 58 = σ 58 from ((f68 58 (of_decide_eq_true rfl)).trans (f52 58 (of_decide_eq_true rfl))), show σ66 8 = σ 8 from ((f68 8 (of_decide_eq_true rfl)).trans (f52 8 (of_decide_eq_true rfl))), show σ66 59 = σ 59 from ((f68 59 (of_decide_eq_true rfl)).trans (f52 59 (of_decide_eq_true rfl))), show (σ66 55 6).toInt = (σ 55 6).toInt from by omega, show (σ66 55 4).toInt = (σ 55 4).toInt from by omega]; exact hr0), (show jOvP (σ66 56) (σ66 57) (σ66 58) (σ66 59) (σ66 55 4).toInt by rw [show σ66 56 = σ 56 from ((f68 56 (of_decide_eq_true rfl)).trans (f52 56 (of_decide_eq_true rfl))), show σ66 57 = σ 57 from ((f68 57 (of_decide_eq_true rfl)).trans (f52 57 (of_decide_eq_true rfl))), show σ66 58 = σ 58 from ((f68 58 (of_decide_eq_true rfl)).trans (f52 58 (of_decide_eq_true rfl))), show σ66 59 = σ 59 from ((f68 59 (of_decide_eq_true rfl)).trans (f52 59 (of_decide_eq_true rfl))), show (σ66 55 4).toInt = (σ 55 4).toInt from by omega]; exact hr1), (show jTp (σ66 10) (σ66 63) (σ66 55 15).toInt by rw [show σ66 10 = σ 10 from ((f68 10 (of_decide_eq_true rfl)).trans (f52 10 (of_decide_eq_true rfl))), show σ66 63 = σ 63 from ((f68 63 (of_decide_eq_true rfl)).trans (f52 63 (of_decide_eq_true rfl)))]; exact hr2.le (by omega)), (show jSo (σ66 17) (σ66 62) (σ66 16 0).toInt by rw [show σ66 17 = σ 17 from ((f68 17 (of_decide_eq_true rfl)).trans (f52 17 (of_decide_eq_true rfl))), show σ66 62 = σ 62 from ((f68 62 (of_decide_eq_true rfl)).trans (f52 62 (of_decide_eq_true rfl))), show (σ66 16 0).toInt = (σ 16 0).toInt from by omega]; exact hr3), (show jShP (σ66 51) (σ66 52) (σ66 53) (σ66 86) (σ66 87) (σ66 55 32).toInt by rw [show σ66 51 = σ 51 from ((f68 51 (of_decide_eq_true rfl)).trans (f52 51 (of_decide_eq_true rfl))), show σ66 52 = σ 52 from ((f68 52 (of_decide_eq_true rfl)).trans (f52 52 (of_decide_eq_true rfl))), show σ66 53 = σ 53 from ((f68 53 (of_decide_eq_true rfl)).trans (f52 53 (of_decide_eq_true rfl))), show σ66 86 = σ 86 from ((f68 86 (of_decide_eq_true rfl)).trans (f52 86 (of_decide_eq_true rfl))), show σ66 87 = σ 87 from ((f68 87 (of_decide_eq_true rfl)).trans (f52 87 (of_decide_eq_true rfl)))]; exact (hr4.up (by omega) (by omega))), (show jEl (σ66 51) (σ66 52) (τ 54) (τ 88) by rw [show σ66 51 = σ 51 from ((f68 51 (of_decide_eq_true rfl)).trans (f52 51 (of_decide_eq_true rfl))), show σ66 52 = σ 52 from ((f68 52 (of_decide_eq_true rfl)).trans (f52 52 (of_decide_eq_true rfl)))]; exact hr5), (show jByP (σ66 51) (σ66 52) (τ 54) by rw [show σ66 51 = σ 51 from ((f68 51 (of_decide_eq_true rfl)).trans (f52 51 (of_decide_eq_true rfl))), show σ66 52 = σ 52 from ((f68 52 (of_decide_eq_true rfl)).trans (f52 52 (of_decide_eq_true rfl)))]; exact hr6), (show jBk (σ66 48) (σ66 80) (σ66 49) (σ66 81) (σ66 55 47).toInt by rw [show σ66 48 = σ 48 from ((f68 48 (of_decide_eq_true rfl)).trans (f52 48 (of_decide_eq_true rfl))), show σ66 49 = σ 49 from ((f68 49 (of_decide_eq_true rfl)).trans (f52 49 (of_decide_eq_true rfl))), show σ66 80 = σ 80 from ((f68 80 (of_decide_eq_true rfl)).trans (f52 80 (of_decide_eq_true rfl))), show σ66 81 = σ 81 from ((f68 81 (of_decide_eq_true rfl)).trans (f52 81 (of_decide_eq_true rfl))), show (σ66 55 47).toInt = (σ 55 47).toInt from by omega]; exact hr7), (show jKd (σ66 39) (σ66 70) (σ66 55 32).toInt by rw [show σ66 39 = σ 39 from ((f68 39 (of_decide_eq_true rfl)).trans (f52 39 (of_decide_eq_true rfl))), show σ66 70 = σ 70 from ((f68 70 (of_decide_eq_true rfl)).trans (f52 70 (of_decide_eq_true rfl))), show (σ66 55 32).toInt = (σ 55 32).toInt from by omega]; exact hr8), (show jTt (σ66 42) (σ66 85) (σ66 55 55).toInt by rw [show σ66 42 = σ 42 from ((f68 42 (of_decide_eq_true rfl)).trans (f52 42 (of_decide_eq_true rfl))), show σ66 85 = σ 85 from ((f68 85 (of_decide_eq_true rfl)).trans (f52 85 (of_decide_eq_true rfl))), show (σ66 55 55).toInt = (σ 55 55).toInt from by omega]; exact hr9)⟩ hP hS (lv_sub hl [0, 1, 2, 3] rfl)
set_option maxHeartbeats 4000000 in
set_option maxRecDepth 100000 in
theorem law_case_15 {p : Program} {e : Env} {s : State} {m : MethodId} {below : List Frame} {meth : Method} {c : Code} (l : Launch) {b L : Nat} {xs : Nat → Int32} {D : va_G} {cI cL : ClassId} {ad zz : Nat → Nat} (C0 : lw_At p s m meth c b L xs) (hJ : jD ad) (hA : ∀ q, jA ad q → s.heap.size ≤ q) (hK : jK D cI cL s) (hZ : jZ zz (fun q : Nat => s.heap.size ≤ q) s s.heap) {x0 : Int32} (hx0 : 0 ≤ x0.toInt) (hxL : x0.toInt + 6 ≤ (L : Int)) (hL : L ≤ 384) {σ : Nat → Nat → Int32} {τ : Nat → Nat → Int64} {H : Heap} {locs : List Loc} (hS : va_S (fun q : Nat => s.heap.size ≤ q) s.heap H locs) {ls : Array Slot} (hAll : jAll σ τ) (hP : jH D cI cL ad σ τ H) (hl : lv_has ls 4 [(3, .int x0), (2, .ref (ad 55)), (1, .ref (ad 0)), (0, .ref b)]) (ih : ∀ (x1 : Int32) (σ : Nat → Nat → Int32) (τ : Nat → Nat → Int64) (H : Heap) (locs : List Loc) (ls : Array Slot), x1.toInt = x0.toInt + 6 → jAll σ τ → jH D cI cL ad σ τ H → va_S (fun q : Nat => s.heap.size ≤ q) s.heap H locs → lv_has ls 4 [(3, .int x1), (2, .ref (ad 55)), (1, .ref (ad 0)), (0, .ref b)] → W p l e room_1 s m #[Value.ref b] below meth c H locs 90 348600 (lw_Z below #[Value.ref b] s) (F0 m 18 ls [])) : W p l e room_1 s m #[Value.ref b] below meth c H locs 90 348600 (lw_Z below #[Value.ref b] s) (F0 m 661 ls []) := by
  obtain ⟨hx, hb, hr, hml, hown, hts0, hX, hbl, hlocks, hgv⟩ := C0
  have hts : ∀ w ∈ wsL_law, w.before #[Value.ref b] s = true := fun w h => hts0 w (wsL_law_in w h)
  have hbA : ¬ (fun q : Nat => s.heap.size ≤ q) b := Nat.not_le.mpr hbl
  have hown : s.vm.findClass RL = some m.cls := hown
  obtain ⟨hI2, hI9, hI12, hI16, hI18, hI22, hI31, hI38, hI43, hI47, hI50, hI101, hI102, hI103, hI104, hI105, hI106, hI107, hI109, hI110, hI111, hI119, hs_jKept, hs_jBook, ht0, ht1, ht2, ht3, ht4, ht5, ht6, ht7, ht8, ht9, ht10, ht11, hr0, hr1, hr2, hr3, hr4, hr5, hr6, hr7, hr8, hr9⟩ := hAll
  have hL9 : (L : Int) ≤ 384 := by omega
  obtain ⟨i1, i2, i3, i4, i5, w6⟩ : (0 ≤ (σ 2 0).toInt ∧ (σ 2 0).toInt ≤ 4) ∧ (0 ≤ (σ 2 1).toInt ∧ (σ 2 1).toInt ≤ 3) ∧ (0 ≤ (σ 2 2).toInt) ∧ (0 ≤ (σ 2 3).toInt) ∧ ((σ 2 2).toInt + (σ 2 3).toInt ≤ 40) ∧ (∀ k : Nat, k < 40 → 0 ≤ (σ 6 k).toInt ∧ (σ 6 k).toInt ≤ 67) := id hI2
  obtain ⟨i7, w8, w9⟩ : (0 ≤ (σ 9 0).toInt ∧ (σ 9 0).toInt ≤ 80) ∧ (∀ k : Nat, k < 80 → 0 ≤ (σ 10 k).toInt ∧ (σ 10 k).toInt ≤ 255) ∧ (∀ k : Nat, k < 8 → 0 ≤ (σ 11 k).toInt ∧ (σ 11 k).toInt ≤ 3) := id hI9
  obtain ⟨i10, i11, i12, w13⟩ : (1 ≤ (σ 16 0).toInt ∧ (σ 16 0).toInt ≤ 8) ∧ (1 ≤ (σ 16 1).toInt ∧ (σ 16 1).toInt ≤ 12) ∧ (0 ≤ (σ 16 2).toInt ∧ (σ 16 2).toInt ≤ 999) ∧ (∀ k : Nat, k < 8 → 0 ≤ (σ 17 k).toInt ∧ (σ 17 k).toInt ≤ 3) := id hI16
  obtain ⟨i14, i15, w16⟩ : (0 ≤ (σ 38 0).toInt ∧ (σ 38 0).toInt ≤ 20) ∧ (0 ≤ (σ 38 1).toInt ∧ (σ 38 1).toInt ≤ 1000) ∧ (∀ k : Nat, k < 20 → 0 ≤ (σ 39 k).toInt ∧ (σ 39 k).toInt ≤ 6) := id hI38
  obtain ⟨i17, w18, w19⟩ : (0 ≤ (σ 47 0).toInt ∧ (σ 47 0).toInt ≤ 12) ∧ (∀ k : Nat, k < 12 → 0 ≤ (σ 48 k).toInt ∧ (σ 48 k).toInt ≤ 3) ∧ (∀ k : Nat, k < 12 → 0 ≤ (σ 49 k).toInt ∧ (σ 49 k).toInt ≤ 1) := id hI47
  have w20 : ∀ k : Nat, k < 6 → 0 ≤ (σ 52 k).toInt ∧ (σ 52 k).toInt ≤ 60 := hI50
  obtain ⟨i21, i22, i23, w24, w25, w26, w27⟩ : (0 ≤ (σ 55 5).toInt) ∧ ((σ 55 5).toInt ≤ (σ 55 4).toInt) ∧ ((σ 55 4).toInt ≤ 40) ∧ (∀ k : Nat, k < 68 → (-200) ≤ (σ 56 k).toInt ∧ (σ 56 k).toInt ≤ 500) ∧ (∀ k : Nat, k < 40 → 0 ≤ (σ 57 k).toInt ∧ (σ 57 k).toInt ≤ 67) ∧ (∀ k : Nat, k < 40 → (-200) ≤ (σ 58 k).toInt ∧ (σ 58 k).toInt ≤ 500) ∧ (∀ k : Nat, k < 40 → (-200) ≤ (σ 59 k).toInt ∧ (σ 59 k).toInt ≤ 500) := id hI101
  obtain ⟨i28, w29, w30⟩ : (0 ≤ (σ 55 6).toInt ∧ (σ 55 6).toInt ≤ 4) ∧ (∀ k : Nat, k < 4 → 0 ≤ (σ 60 k).toInt ∧ (σ 60 k).toInt ≤ 50) ∧ (∀ k : Nat, k < 4 → 0 ≤ (σ 61 k).toInt ∧ (σ 61 k).toInt ≤ 20) := id hI102
  obtain ⟨i31, i32, i33, w34, w35⟩ : (1 ≤ (σ 55 10).toInt ∧ (σ 55 10).toInt ≤ 8) ∧ (1 ≤ (σ 55 12).toInt ∧ (σ 55 12).toInt ≤ 12) ∧ (0 ≤ (σ 55 13).toInt ∧ (σ 55 13).toInt ≤ 999) ∧ (∀ k : Nat, k < 8 → 0 ≤ (σ 62 k).toInt ∧ (σ 62 k).toInt ≤ 3) ∧ (∀ k : Nat, k < 8 → 0 ≤ (σ 67 k).toInt ∧ (σ 67 k).toInt ≤ 3) := id hI104
  obtain ⟨i36, w37⟩ : (0 ≤ (σ 55 15).toInt ∧ (σ 55 15).toInt ≤ 80) ∧ (∀ k : Nat, k < 2 → (-1) ≤ (σ 65 k).toInt ∧ (σ 65 k).toInt ≤ 80) := id hI105
  obtain ⟨i38, w39, w40, w41⟩ : (0 ≤ (σ 55 32).toInt ∧ (σ 55 32).toInt ≤ 20) ∧ (∀ k : Nat, k < 20 → 0 ≤ (σ 70 k).toInt ∧ (σ 70 k).toInt ≤ 6) ∧ (∀ k : Nat, k < 20 → 0 ≤ (σ 71 k).toInt ∧ (σ 71 k).toInt ≤ 8) ∧ (∀ k : Nat, k < 160 → 0 ≤ (σ 72 k).toInt ∧ (σ 72 k).toInt ≤ 3) := id hI106
  obtain ⟨i42, i43, w44⟩ : (0 ≤ (σ 55 47).toInt ∧ (σ 55 47).toInt ≤ 12) ∧ ((σ 55 47).toInt ≤ (σ 55 12).toInt) ∧ (∀ k : Nat, k < 12 → 0 ≤ (σ 80 k).toInt ∧ (σ 80 k).toInt ≤ 3) := id hI107
  refine lv_aload_n hx hb dL_law_661 rfl (lv_at hl 2 rfl) ?_
  refine lv_aload_n hx hb dL_law_662 rfl (lv_at hl 3 rfl) ?_
  refine lv_iload_n hx hb dL_law_663 rfl (lv_at hl 0 rfl) ?_
  refine lv_iconst (v := 1) hx hb dL_law_664 (of_decide_eq_true rfl) ?_
  have g45 := jrg (rfl : x0.toInt = x0.toInt)
  refine lv_iadd hx hb dL_law_665 ?_
  refine lv_topi (fun x46 ex46 => ?_)
  exact by
   have tx46 : x46.toInt = x0.toInt + 1 := (jadd ex46 rfl jz_1 (by omega) (by omega)).trans (by omega)
   refine va_sld hx hb hX hbl hbA hS (jin tx46 (by omega) (by omega)) dL_law_666 ?_
   have g47 := jrg (rfl : (xs x46.toNatClampNeg).toInt = (xs x46.toNatClampNeg).toInt)
   refine lv_aload_n hx hb dL_law_667 rfl (lv_at hl 3 rfl) ?_
   refine lv_iload_n hx hb dL_law_668 rfl (lv_at hl 0 rfl) ?_
   refine lv_iconst (v := 2) hx hb dL_law_669 (of_decide_eq_true rfl) ?_
   refine lv_iadd hx hb dL_law_670 ?_
   refine lv_topi (fun x48 ex48 => ?_)
   have tx48 : x48.toInt = x0.toInt + 2 := (jadd ex48 rfl jz_2 (by omega) (by omega)).trans (by omega)
   exact by
    refine va_sld hx hb hX hbl hbA hS (jin tx48 (by omega) (by omega)) dL_law_671 ?_
    have g49 := jrg (rfl : (xs x48.toNatClampNeg).toInt = (xs x48.toNatClampNeg).toInt)
    refine jcallV (As := [.int (xs x46.toNatClampNeg), .int (xs x48.toNatClampNeg)]) (rest := []) ⟨hx, hb, hml, hown, hts⟩ hK hP hA hS hZ (c_X11_fielded l D cI cL ad zz hJ σ τ (xs x46.toNatClampNeg) ((xs x46.toNatClampNeg).toInt) rfl (xs x48.toNatClampNeg) ((xs x48.toNatClampNeg).toInt) rfl hI2 hI16 hI22 hI31) cw_RL_77 (jc_0 cI cL ad σ τ) rfl ⟨Nat.le_of_ble_eq_true rfl, Nat.le_of_ble_eq_true rfl⟩ rfl rfl rfl hl.1 rfl (Nat.le_of_ble_eq_true rfl) dL_law_672 ⟨Nat.le_of_ble_eq_true rfl, Nat.le_of_ble_eq_true rfl⟩ (fun r51 σ50 τ50 H locs h50 hP hS => ?_)
    obtain ⟨rfl, f52, f53, I54, h50⟩ := h50
    refine lv_pop hx hb dL_law_675 rfl ?_
    refine lv_aload_n hx hb dL_law_676 rfl (lv_at hl 1 rfl) ?_
    refine lv_aload_n hx hb dL_law_677 rfl (lv_at hl 3 rfl) ?_
    refine lv_iload_n hx hb dL_law_678 rfl (lv_at hl 0 rfl) ?_
    refine lv_iconst (v := 1) hx hb dL_law_679 (of_decide_eq_true rfl) ?_
    refine lv_iadd hx hb dL_law_680 ?_
    refine jtopr ex46.symm ?_
    exact by
     refine va_sld hx hb hX hbl hbA hS (jin tx46 (by omega) (by omega)) dL_law_681 ?_
     refine lv_aload_n hx hb dL_law_682 rfl (lv_at hl 3 rfl) ?_
     refine lv_iload_n hx hb dL_law_683 rfl (lv_at hl 0 rfl) ?_
     refine lv_iconst (v := 2) hx hb dL_law_684 (of_decide_eq_true rfl) ?_
     refine lv_iadd hx hb dL_law_685 ?_
     refine jtopr ex48.symm ?_
     refine va_sld hx hb hX hbl hbA hS (jin tx48 (by omega) (by omega)) dL_law_686 ?_
     have I56 : jI101 σ50 := jI101_fr (congrFun (f52 55 (of_decide_eq_true rfl)) 4) (congrFun (f52 55 (of_decide_eq_true rfl)) 5) (f52 56 (of_decide_eq_true rfl)) (f52 57 (of_decide_eq_true rfl)) (f52 58 (of_decide_eq_true rfl)) (f52 59 (of_decide_eq_true rfl)) hI101
     have I57 : jI102 σ50 := jI102_fr (congrFun (f52 55 (of_decide_eq_true rfl)) 6) (f52 60 (of_decide_eq_true rfl)) (f52 61 (of_decide_eq_true rfl)) hI102
     exact by
      have I58 : jI103 σ50 := jI103_fr (congrFun (f52 55 (of_decide_eq_true rfl)) 9) hI103
      have I59 : jI104 σ50 := jI104_fr (congrFun (f52 55 (of_decide_eq_true rfl)) 10) (congrFun (f52 55 (of_decide_eq_true rfl)) 12) (congrFun (f52 55 (of_decide_eq_true rfl)) 13) (f52 62 (of_decide_eq_true rfl)) (f52 67 (of_decide_eq_true rfl)) hI104
      have I60 : jI105 σ50 := jI105_fr (congrFun (f52 55 (of_decide_eq_true rfl)) 15) (f52 65 (of_decide_eq_true rfl)) hI105
      have I61 : jI106 σ50 := jI106_fr (congrFun (f52 55 (of_decide_eq_true rfl)) 32) (f52 70 (of_decide_eq_true rfl)) (f52 71 (of_decide_eq_true rfl)) (f52 72 (of_decide_eq_true rfl)) hI106
      have I62 : jI119 σ50 := jI119_fr (f52 68 (of_decide_eq_true rfl)) hI119
      have p63 : jKept σ50 := jKept.fr (f52 75 (of_decide_eq_true rfl)) (f52 76 (of_decide_eq_true rfl)) (f52 77 (of_decide_eq_true rfl)) hs_jKept
      have z64 : (σ50 55 9).toInt = (σ 55 9).toInt := (congrArg Int32.toInt (show σ50 55 9 = (σ 55 9) from (congrFun (f52 55 (of_decide_eq_true rfl)) 9)))
      refine jcallV (As := [.int (xs x46.toNatClampNeg), .int (xs x48.toNatClampNeg)]) (rest := []) ⟨hx, hb, hml, hown, hts⟩ hK hP hA hS hZ (c_X12_fielded l D cI cL ad zz hJ σ50 τ (xs x46.toNatClampNeg) ((xs x46.toNatClampNeg).toInt) rfl (xs x48.toNatClampNeg) ((xs x48.toNatClampNeg).toInt) rfl I56 I57 I58 I59 I60 I61 I62 p63) cw_RL_80 (jc_55 cI cL ad σ50 τ) rfl ⟨Nat.le_of_ble_eq_true rfl, Nat.le_of_ble_eq_true rfl⟩ rfl rfl rfl hl.1 rfl (Nat.le_of_ble_eq_true rfl) dL_law_687 ⟨Nat.le_of_ble_eq_true rfl, Nat.le_of_ble_eq_true rfl⟩ (fun r66 σ65 τ65 H locs h65 hP hS => ?_)
      obtain ⟨rfl, f67, f68, I69, I70, p71, h65⟩ := h65
      obtain ⟨k73, h65⟩ := h65
      refine lv_pop hx hb dL_law_690 rfl ?_
      refine lv_goto (tgt := 1357) hx hb dL_law_691 (of_decide_eq_true rfl) ?_
      obtain ⟨x74, ex74⟩ : ∃ y : Int32, y = x0 + 6 := ⟨_, rfl⟩
      exact by
       have tx74 : x74.toInt = x0.toInt + 6 := (jadd ex74 rfl jz_6 (by omega) (by omega)).trans (by omega)
       refine lv_iinc (v := x74) (lv' := [(3, .int x74), (2, .ref (ad 55)), (1, .ref (ad 0)), (0, .ref b)]) hx hb dL_law_1357 hl (k := 0) rfl (by rw [ex74]; rfl) (of_decide_eq_true rfl) rfl (fun ls hl => ?_)
       refine lv_goto (tgt := 18) hx hb dL_law_1360 (of_decide_eq_true rfl) ?_
       have I75 : jI2 σ65 := jI2_fr ((congrFun (f67 2 (of_decide_eq_true rfl)) 0).trans (congrFun (f52 2 (of_decide_eq_true rfl)) 0)) ((congrFun (f67 2 (of_decide_eq_true rfl)) 1).trans (congrFun (f52 2 (of_decide_eq_true rfl)) 1)) ((congrFun (f67 2 (of_decide_eq_true rfl)) 2).trans (congrFun (f52 2 (of_decide_eq_true rfl)) 2)) ((congrFun (f67 2 (of_decide_eq_true rfl)) 3).trans (congrFun (f52 2 (of_decide_eq_true rfl)) 3)) ((f67 6 (of_decide_eq_true rfl)).trans (f52 6 (of_decide_eq_true rfl))) hI2
       have I76 : jI9 σ65 := jI9_fr ((congrFun (f67 9 (of_decide_eq_true rfl)) 0).trans (congrFun (f52 9 (of_decide_eq_true rfl)) 0)) ((f67 10 (of_decide_eq_true rfl)).trans (f52 10 (of_decide_eq_true rfl))) ((f67 11 (of_decide_eq_true rfl)).trans (f52 11 (of_decide_eq_true rfl))) hI9
       have I77 : jI12 σ65 := jI12_fr ((congrFun (f67 12 (of_decide_eq_true rfl)) 0).trans (congrFun (f52 12 (of_decide_eq_true rfl)) 0)) ((f67 13 (of_decide_eq_true rfl)).trans (f52 13 (of_decide_eq_true rfl))) hI12
       have I78 : jI16 σ65 := jI16_fr ((congrFun (f67 16 (of_decide_eq_true rfl)) 0).trans (congrFun (f52 16 (of_decide_eq_true rfl)) 0)) ((congrFun (f67 16 (of_decide_eq_true rfl)) 1).trans (congrFun (f52 16 (of_decide_eq_true rfl)) 1)) ((congrFun (f67 16 (of_decide_eq_true rfl)) 2).trans (congrFun (f52 16 (of_decide_eq_true rfl)) 2)) ((f67 17 (of_decide_eq_true rfl)).trans (f52 17 (of_decide_eq_true rfl))) hI16
       have I79 : jI18 σ65 := jI18_fr ((congrFun (f67 18 (of_decide_eq_true rfl)) 0).trans (congrFun (f52 18 (of_decide_eq_true rfl)) 0)) ((f67 19 (of_decide_eq_true rfl)).trans (f52 19 (of_decide_eq_true rfl))) hI18
       have I80 : jI22 σ65 := jI22_fr ((congrFun (f67 22 (of_decide_eq_true rfl)) 0).trans (congrFun (f52 22 (of_decide_eq_true rfl)) 0)) ((f67 23 (of_decide_eq_true rfl)).trans (f52 23 (of_decide_eq_true rfl))) hI22
       exact by
        have I81 : jI31 σ65 := jI31_fr (congrFun (f67 31 (of_decide_eq_true rfl)) 8) (f67 33 (of_decide_eq_true rfl)) (f67 36 (of_decide_eq_true rfl)) I54
        have I82 : jI38 σ65 := jI38_fr ((congrFun (f67 38 (of_decide_eq_true rfl)) 0).trans (congrFun (f52 38 (of_decide_eq_true rfl)) 0)) ((congrFun (f67 38 (of_decide_eq_true rfl)) 1).trans (congrFun (f52 38 (of_decide_eq_true rfl)) 1)) ((f67 39 (of_decide_eq_true rfl)).trans (f52 39 (of_decide_eq_true rfl))) hI38
        have I83 : jI43 σ65 := jI43_fr ((congrFun (f67 43 (of_decide_eq_true rfl)) 8).trans (congrFun (f52 43 (of_decide_eq_true rfl)) 8)) hI43
        have I84 : jI47 σ65 := jI47_fr ((congrFun (f67 47 (of_decide_eq_true rfl)) 0).trans (congrFun (f52 47 (of_decide_eq_true rfl)) 0)) ((f67 48 (of_decide_eq_true rfl)).trans (f52 48 (of_decide_eq_true rfl))) ((f67 49 (of_decide_eq_true rfl)).trans (f52 49 (of_decide_eq_true rfl))) hI47
        have I85 : jI50 σ65 := jI50_fr ((f67 52 (of_decide_eq_true rfl)).trans (f52 52 (of_decide_eq_true rfl))) hI50
        have I86 : jI101 σ65 := jI101_fr (f68 4 (of_decide_eq_true rfl)) (f68 5 (of_decide_eq_true rfl)) (f67 56 (of_decide_eq_true rfl)) (f67 57 (of_decide_eq_true rfl)) (f67 58 (of_decide_eq_true rfl)) (f67 59 (of_decide_eq_true rfl)) I56
        have I87 : jI102 σ65 := jI102_fr (f68 6 (of_decide_eq_true rfl)) (f67 60 (of_decide_eq_true rfl)) (f67 61 (of_decide_eq_true rfl)) I57
        have I88 : jI104 σ65 := jI104_fr (f68 10 (of_decide_eq_true rfl)) (f68 12 (of_decide_eq_true rfl)) (f68 13 (of_decide_eq_true rfl)) (f67 62 (of_decide_eq_true rfl)) (f67 67 (of_decide_eq_true rfl)) I59
        have I89 : jI105 σ65 := jI105_fr (f68 15 (of_decide_eq_true rfl)) (f67 65 (of_decide_eq_true rfl)) I60
        have I90 : jI106 σ65 := jI106_fr (f68 32 (of_decide_eq_true rfl)) (f67 70 (of_decide_eq_true rfl)) (f67 71 (of_decide_eq_true rfl)) (f67 72 (of_decide_eq_true rfl)) I61
        have I91 : jI107 σ65 := jI107_fr ((f68 12 (of_decide_eq_true rfl)).trans (congrFun (f52 55 (of_decide_eq_true rfl)) 12)) ((f68 47 (of_decide_eq_true rfl)).trans (congrFun (f52 55 (of_decide_eq_true rfl)) 47)) ((f67 80 (of_decide_eq_true rfl)).trans (f52 80 (of_decide_eq_true rfl))) hI107
        have I92 : jI109 σ65 := jI109_fr ((f68 50 (of_decide_eq_true rfl)).trans (congrFun (f52 55 (of_decide_eq_true rfl)) 50)) hI109
        have I93 : jI110 σ65 := jI110_fr ((f67 86 (of_decide_eq_true rfl)).trans (f52 86 (of_decide_eq_true rfl))) ((f67 87 (of_decide_eq_true rfl)).trans (f52 87 (of_decide_eq_true rfl))) hI110
        have I94 : jI111 σ65 := jI111_fr ((f67 79 (of_decide_eq_true rfl)).trans (f52 79 (of_decide_eq_true rfl))) hI111
        have p95 : jBook σ65 := jBook.fr ((f68 47 (of_decide_eq_true rfl)).trans (congrFun (f52 55 (of_decide_eq_true rfl)) 47)) ((f68 10 (of_decide_eq_true rfl)).trans (congrFun (f52 55 (of_decide_eq_true rfl)) 10)) ((f67 81 (of_decide_eq_true rfl)).trans (f52 81 (of_decide_eq_true rfl))) hs_jBook
        have z96 : (σ65 2 0).toInt = (σ 2 0).toInt := (congrArg Int32.toInt (show σ65 2 0 = (σ 2 0) from ((congrFun (f67 2 (of_decide_eq_true rfl)) 0).trans (congrFun (f52 2 (of_decide_eq_true rfl)) 0))))
        have z97 : (σ65 55 6).toInt = (σ 55 6).toInt := (congrArg Int32.toInt (show σ65 55 6 = (σ 55 6) from ((f68 6 (of_decide_eq_true rfl)).trans (congrFun (f52 55 (of_decide_eq_true rfl)) 6))))
        have z98 : (σ65 2 2).toInt = (σ 2 2).toInt := (congrArg Int32.toInt (show σ65 2 2 = (σ 2 2) from ((congrFun (f67 2 (of_decide_eq_true rfl)) 2).trans (congrFun (f52 2 (of_decide_eq_true rfl)) 2))))
        have z99 : (σ65 55 5).toInt = (σ 55 5).toInt := (congrArg Int32.toInt (show σ65 55 5 = (σ 55 5) from ((f68 5 (of_decide_eq_true rfl)).trans (congrFun (f52 55 (of_decide_eq_true rfl)) 5))))
        have z100 : (σ65 2 3).toInt = (σ 2 3).toInt := (congrArg Int32.toInt (show σ65 2 3 = (σ 2 3) from ((congrFun (f67 2 (of_decide_eq_true rfl)) 3).trans (congrFun (f52 2 (of_decide_eq_true rfl)) 3))))
        have z101 : (σ65 55 4).toInt = (σ 55 4).toInt := (congrArg Int32.toInt (show σ65 55 4 = (σ 55 4) from ((f68 4 (of_decide_eq_true rfl)).trans (congrFun (f52 55 (of_decide_eq_true rfl)) 4))))
        have z102 : (σ65 9 0).toInt = (σ 9 0).toInt := (congrArg Int32.toInt (show σ65 9 0 = (σ 9 0) from ((congrFun (f67 9 (of_decide_eq_true rfl)) 0).trans (congrFun (f52 9 (of_decide_eq_true rfl)) 0))))
        have z103 : (σ65 55 15).toInt = (σ 55 15).toInt := (congrArg Int32.toInt (show σ65 55 15 = (σ 55 15) from ((f68 15 (of_decide_eq_true rfl)).trans (congrFun (f52 55 (of_decide_eq_true rfl)) 15))))
        have z104 : (σ65 16 0).toInt = (σ 16 0).toInt := (congrArg Int32.toInt (show σ65 16 0 = (σ 16 0) from ((congrFun (f67 16 (of_decide_eq_true rfl)) 0).trans (congrFun (f52 16 (of_decide_eq_true rfl)) 0))))
        have z105 : (σ65 55 10).toInt = (σ 55 10).toInt := (congrArg Int32.toInt (show σ65 55 10 = (σ 55 10) from ((f68 10 (of_decide_eq_true rfl)).trans (congrFun (f52 55 (of_decide_eq_true rfl)) 10))))
        have z106 : (σ65 16 1).toInt = (σ 16 1).toInt := (congrArg Int32.toInt (show σ65 16 1 = (σ 16 1) from ((congrFun (f67 16 (of_decide_eq_true rfl)) 1).trans (congrFun (f52 16 (of_decide_eq_true rfl)) 1))))
        have z107 : (σ65 55 12).toInt = (σ 55 12).toInt := (congrArg Int32.toInt (show σ65 55 12 = (σ 55 12) from ((f68 12 (of_decide_eq_true rfl)).trans (congrFun (f52 55 (of_decide_eq_true rfl)) 12))))
        have z108 : (σ65 16 2).toInt = (σ 16 2).toInt := (congrArg Int32.toInt (show σ65 16 2 = (σ 16 2) from ((congrFun (f67 16 (of_decide_eq_true rfl)) 2).trans (congrFun (f52 16 (of_decide_eq_true rfl)) 2))))
        have z109 : (σ65 55 13).toInt = (σ 55 13).toInt := (congrArg Int32.toInt (show σ65 55 13 = (σ 55 13) from ((f68 13 (of_decide_eq_true rfl)).trans (congrFun (f52 55 (of_decide_eq_true rfl)) 13))))
        have z110 : (σ65 38 0).toInt = (σ 38 0).toInt := (congrArg Int32.toInt (show σ65 38 0 = (σ 38 0) from ((congrFun (f67 38 (of_decide_eq_true rfl)) 0).trans (congrFun (f52 38 (of_decide_eq_true rfl)) 0))))
        have z111 : (σ65 55 32).toInt = (σ 55 32).toInt := (congrArg Int32.toInt (show σ65 55 32 = (σ 55 32) from ((f68 32 (of_decide_eq_true rfl)).trans (congrFun (f52 55 (of_decide_eq_true rfl)) 32))))
        have z112 : (σ65 38 1).toInt = (σ 38 1).toInt := (congrArg Int32.toInt (show σ65 38 1 = (σ 38 1) from ((congrFun (f67 38 (of_decide_eq_true rfl)) 1).trans (congrFun (f52 38 (of_decide_eq_true rfl)) 1))))
        have z113 : (σ65 55 55).toInt = (σ 55 55).toInt := (congrArg Int32.toInt (show σ65 55 55 = (σ 55 55) from ((f68 55 (of_decide_eq_true rfl)).trans (congrFun (f52 55 (of_decide_eq_true rfl)) 55))))
        have z114 : (σ65 47 0).toInt = (σ 47 0).toInt := (congrArg Int32.toInt (show σ65 47 0 = (σ 47 0) from ((congrFun (f67 47 (of_decide_eq_true rfl)) 0).trans (congrFun (f52 47 (of_decide_eq_true rfl)) 0))))
        have z115 : (σ65 55 47).toInt = (σ 55 47).toInt := (congrArg Int32.toInt (show σ65 55 47 = (σ 55 47) from ((f68 47 (of_decide_eq_true rfl)).trans (congrFun (f52 55 (of_decide_eq_true rfl)) 47))))
        have z116 : (σ65 55 30).toInt = (σ 55 30).toInt := (congrArg Int32.toInt (show σ65 55 30 = (σ 55 30) from ((f68 30 (of_decide_eq_true rfl)).trans (congrFun (f52 55 (of_decide_eq_true rfl)) 30))))
        have z117 : (σ65 55 31).toInt = (σ 55 31).toInt := (congrArg Int32.toInt (show σ65 55 31 = (σ 55 31) from ((f68 31 (of_decide_eq_true rfl)).trans (congrFun (f52 55 (of_decide_eq_true rfl)) 31))))
        exact by exact ih x74 σ65 τ _ _ ls (by have h9 := tx74; omega) ⟨I75, I76, I77, I78, I79, I80, I81, I82, I83, I84, I85, I86, I87, I69, I88, I89, I90, I91, I92, I93, I94, I70, p71, p95, (by omega), (by omega), (by omega), (by omega), (by omega), (by omega), (by omega), (by omega), (by omega), (by omega), (by omega), (by omega), (show jNumP (σ65 3) (σ65 56) (σ65 6) (σ65 57) (σ65 7) (σ65 58) (σ65 8) (σ65 59) (σ65 55 6).toInt (σ65 55 4).toInt by rw [show σ65 3 = σ 3 from ((f67 3 (of_decide_eq_true rfl)).trans (f52 3 (of_decide_eq_true rfl))), show σ65 56 = σ 56 from ((f67 56 (of_decide_eq_true rfl)).trans (f52 56 (of_decide_eq_true rfl))), show σ65 6 = σ 6 from ((f67 6 (of_decide_eq_true rfl)).trans (f52 6 (of_decide_eq_true rfl))), show σ65 57 = σ 57 from ((f67 57 (of_decide_eq_true rfl)).trans (f52 57 (of_decide_eq_true rfl))), show σ65 7 = σ 7 from ((f67 7 (of_decide_eq_true rfl)).trans (f52 7 (of_decide_eq_true rfl))), show σ65 58 = σ 58 from ((f67 58 (of_decide_eq_true rfl)).trans (f52 58 (of_decide_eq_true rfl))), show σ65 8 = σ 8 from ((f67 8 (of_decide_eq_true rfl)).trans (f52 8 (of_decide_eq_true rfl))), show σ65 59 = σ 59 from ((f67 59 (of_decide_eq_true rfl)).trans (f52 59 (of_decide_eq_true rfl))), show (σ65 55 6).toInt = (σ 55 6).toInt from by omega, show (σ65 55 4).toInt = (σ 55 4).toInt from by omega]; exact hr0), (show jOvP (σ65 56) (σ65 57) (σ65 58) (σ65 59) (σ65 55 4).toInt by rw [show σ65 56 = σ 56 from ((f67 56 (of_decide_eq_true rfl)).trans (f52 56 (of_decide_eq_true rfl))), show σ65 57 = σ 57 from ((f67 57 (of_decide_eq_true rfl)).trans (f52 57 (of_decide_eq_true rfl))), show σ65 58 = σ 58 from ((f67 58 (of_decide_eq_true rfl)).trans (f52 58 (of_decide_eq_true rfl))), show σ65 59 = σ 59 from ((f67 59 (of_decide_eq_true rfl)).trans (f52 59 (of_decide_eq_true rfl))), show (σ65 55 4).toInt = (σ 55 4).toInt from by omega]; exact hr1), (show jTp (σ65 10) (σ65 63) (σ65 55 15).toInt by rw [show σ65 10 = σ 10 from ((f67 10 (of_decide_eq_true rfl)).trans (f52 10 (of_decide_eq_true rfl))), show σ65 63 = σ 63 from ((f67 63 (of_decide_eq_true rfl)).trans (f52 63 (of_decide_eq_true rfl)))]; exact hr2.le (by omega)), (show jSo (σ65 17) (σ65 62) (σ65 16 0).toInt by rw [show σ65 17 = σ 17 from ((f67 17 (of_decide_eq_true rfl)).trans (f52 17 (of_decide_eq_true rfl))), show σ65 62 = σ 62 from ((f67 62 (of_decide_eq_true rfl)).trans (f52 62 (of_decide_eq_true rfl))), show (σ65 16 0).toInt = (σ 16 0).toInt from by omega]; exact hr3), (show jShP (σ65 51) (σ65 52) (σ65 53) (σ65 86) (σ65 87) (σ65 55 32).toInt by rw [show σ65 51 = σ 51 from ((f67 51 (of_decide_eq_true rfl)).trans (f52 51 (of_decide_eq_true rfl))), show σ65 52 = σ 52 from ((f67 52 (of_decide_eq_true rfl)).trans (f52 52 (of_decide_eq_true rfl))), show σ65 53 = σ 53 from ((f67 53 (of_decide_eq_true rfl)).trans (f52 53 (of_decide_eq_true rfl))), show σ65 86 = σ 86 from ((f67 86 (of_decide_eq_true rfl)).trans (f52 86 (of_decide_eq_true rfl))), show σ65 87 = σ 87 from ((f67 87 (of_decide_eq_true rfl)).trans (f52 87 (of_decide_eq_true rfl)))]; exact (hr4.up (by omega) (by omega))), (show jEl (σ65 51) (σ65 52) (τ 54) (τ 88) by rw [show σ65 51 = σ 51 from ((f67 51 (of_decide_eq_true rfl)).trans (f52 51 (of_decide_eq_true rfl))), show σ65 52 = σ 52 from ((f67 52 (of_decide_eq_true rfl)).trans (f52 52 (of_decide_eq_true rfl)))]; exact hr5), (show jByP (σ65 51) (σ65 52) (τ 54) by rw [show σ65 51 = σ 51 from ((f67 51 (of_decide_eq_true rfl)).trans (f52 51 (of_decide_eq_true rfl))), show σ65 52 = σ 52 from ((f67 52 (of_decide_eq_true rfl)).trans (f52 52 (of_decide_eq_true rfl)))]; exact hr6), (show jBk (σ65 48) (σ65 80) (σ65 49) (σ65 81) (σ65 55 47).toInt by rw [show σ65 48 = σ 48 from ((f67 48 (of_decide_eq_true rfl)).trans (f52 48 (of_decide_eq_true rfl))), show σ65 49 = σ 49 from ((f67 49 (of_decide_eq_true rfl)).trans (f52 49 (of_decide_eq_true rfl))), show σ65 80 = σ 80 from ((f67 80 (of_decide_eq_true rfl)).trans (f52 80 (of_decide_eq_true rfl))), show σ65 81 = σ 81 from ((f67 81 (of_decide_eq_true rfl)).trans (f52 81 (of_decide_eq_true rfl))), show (σ65 55 47).toInt = (σ 55 47).toInt from by omega]; exact hr7), (show jKd (σ65 39) (σ65 70) (σ65 55 32).toInt by rw [show σ65 39 = σ 39 from ((f67 39 (of_decide_eq_true rfl)).trans (f52 39 (of_decide_eq_true rfl))), show σ65 70 = σ 70 from ((f67 70 (of_decide_eq_true rfl)).trans (f52 70 (of_decide_eq_true rfl))), show (σ65 55 32).toInt = (σ 55 32).toInt from by omega]; exact hr8), (show jTt (σ65 42) (σ65 85) (σ65 55 55).toInt by rw [show σ65 42 = σ 42 from ((f67 42 (of_decide_eq_true rfl)).trans (f52 42 (of_decide_eq_true rfl))), show σ65 85 = σ 85 from ((f67 85 (of_decide_eq_true rfl)).trans (f52 85 (of_decide_eq_true rfl))), show (σ65 55 55).toInt = (σ 55 55).toInt from by omega]; exact hr9)⟩ hP hS (lv_sub hl [0, 1, 2, 3] rfl)
set_option maxHeartbeats 4000000 in
set_option maxRecDepth 100000 in
theorem law_case_16 {p : Program} {e : Env} {s : State} {m : MethodId} {below : List Frame} {meth : Method} {c : Code} (l : Launch) {b L : Nat} {xs : Nat → Int32} {D : va_G} {cI cL : ClassId} {ad zz : Nat → Nat} (C0 : lw_At p s m meth c b L xs) (hJ : jD ad) (hA : ∀ q, jA ad q → s.heap.size ≤ q) (hK : jK D cI cL s) (hZ : jZ zz (fun q : Nat => s.heap.size ≤ q) s s.heap) {x0 : Int32} (hx0 : 0 ≤ x0.toInt) (hxL : x0.toInt + 6 ≤ (L : Int)) (hL : L ≤ 384) {σ : Nat → Nat → Int32} {τ : Nat → Nat → Int64} {H : Heap} {locs : List Loc} (hS : va_S (fun q : Nat => s.heap.size ≤ q) s.heap H locs) {ls : Array Slot} (hAll : jAll σ τ) (hP : jH D cI cL ad σ τ H) (hl : lv_has ls 4 [(3, .int x0), (2, .ref (ad 55)), (1, .ref (ad 0)), (0, .ref b)]) (ih : ∀ (x1 : Int32) (σ : Nat → Nat → Int32) (τ : Nat → Nat → Int64) (H : Heap) (locs : List Loc) (ls : Array Slot), x1.toInt = x0.toInt + 6 → jAll σ τ → jH D cI cL ad σ τ H → va_S (fun q : Nat => s.heap.size ≤ q) s.heap H locs → lv_has ls 4 [(3, .int x1), (2, .ref (ad 55)), (1, .ref (ad 0)), (0, .ref b)] → W p l e room_1 s m #[Value.ref b] below meth c H locs 90 348600 (lw_Z below #[Value.ref b] s) (F0 m 18 ls [])) : W p l e room_1 s m #[Value.ref b] below meth c H locs 90 348600 (lw_Z below #[Value.ref b] s) (F0 m 694 ls []) := by
  obtain ⟨hx, hb, hr, hml, hown, hts0, hX, hbl, hlocks, hgv⟩ := C0
  have hts : ∀ w ∈ wsL_law, w.before #[Value.ref b] s = true := fun w h => hts0 w (wsL_law_in w h)
  have hbA : ¬ (fun q : Nat => s.heap.size ≤ q) b := Nat.not_le.mpr hbl
  have hown : s.vm.findClass RL = some m.cls := hown
  obtain ⟨hI2, hI9, hI12, hI16, hI18, hI22, hI31, hI38, hI43, hI47, hI50, hI101, hI102, hI103, hI104, hI105, hI106, hI107, hI109, hI110, hI111, hI119, hs_jKept, hs_jBook, ht0, ht1, ht2, ht3, ht4, ht5, ht6, ht7, ht8, ht9, ht10, ht11, hr0, hr1, hr2, hr3, hr4, hr5, hr6, hr7, hr8, hr9⟩ := hAll
  have hL9 : (L : Int) ≤ 384 := by omega
  obtain ⟨i1, i2, i3, i4, i5, w6⟩ : (0 ≤ (σ 2 0).toInt ∧ (σ 2 0).toInt ≤ 4) ∧ (0 ≤ (σ 2 1).toInt ∧ (σ 2 1).toInt ≤ 3) ∧ (0 ≤ (σ 2 2).toInt) ∧ (0 ≤ (σ 2 3).toInt) ∧ ((σ 2 2).toInt + (σ 2 3).toInt ≤ 40) ∧ (∀ k : Nat, k < 40 → 0 ≤ (σ 6 k).toInt ∧ (σ 6 k).toInt ≤ 67) := id hI2
  obtain ⟨i7, w8, w9⟩ : (0 ≤ (σ 9 0).toInt ∧ (σ 9 0).toInt ≤ 80) ∧ (∀ k : Nat, k < 80 → 0 ≤ (σ 10 k).toInt ∧ (σ 10 k).toInt ≤ 255) ∧ (∀ k : Nat, k < 8 → 0 ≤ (σ 11 k).toInt ∧ (σ 11 k).toInt ≤ 3) := id hI9
  obtain ⟨i10, i11, i12, w13⟩ : (1 ≤ (σ 16 0).toInt ∧ (σ 16 0).toInt ≤ 8) ∧ (1 ≤ (σ 16 1).toInt ∧ (σ 16 1).toInt ≤ 12) ∧ (0 ≤ (σ 16 2).toInt ∧ (σ 16 2).toInt ≤ 999) ∧ (∀ k : Nat, k < 8 → 0 ≤ (σ 17 k).toInt ∧ (σ 17 k).toInt ≤ 3) := id hI16
  obtain ⟨i14, i15, w16⟩ : (0 ≤ (σ 38 0).toInt ∧ (σ 38 0).toInt ≤ 20) ∧ (0 ≤ (σ 38 1).toInt ∧ (σ 38 1).toInt ≤ 1000) ∧ (∀ k : Nat, k < 20 → 0 ≤ (σ 39 k).toInt ∧ (σ 39 k).toInt ≤ 6) := id hI38
  obtain ⟨i17, w18, w19⟩ : (0 ≤ (σ 47 0).toInt ∧ (σ 47 0).toInt ≤ 12) ∧ (∀ k : Nat, k < 12 → 0 ≤ (σ 48 k).toInt ∧ (σ 48 k).toInt ≤ 3) ∧ (∀ k : Nat, k < 12 → 0 ≤ (σ 49 k).toInt ∧ (σ 49 k).toInt ≤ 1) := id hI47
  have w20 : ∀ k : Nat, k < 6 → 0 ≤ (σ 52 k).toInt ∧ (σ 52 k).toInt ≤ 60 := hI50
  obtain ⟨i21, i22, i23, w24, w25, w26, w27⟩ : (0 ≤ (σ 55 5).toInt) ∧ ((σ 55 5).toInt ≤ (σ 55 4).toInt) ∧ ((σ 55 4).toInt ≤ 40) ∧ (∀ k : Nat, k < 68 → (-200) ≤ (σ 56 k).toInt ∧ (σ 56 k).toInt ≤ 500) ∧ (∀ k : Nat, k < 40 → 0 ≤ (σ 57 k).toInt ∧ (σ 57 k).toInt ≤ 67) ∧ (∀ k : Nat, k < 40 → (-200) ≤ (σ 58 k).toInt ∧ (σ 58 k).toInt ≤ 500) ∧ (∀ k : Nat, k < 40 → (-200) ≤ (σ 59 k).toInt ∧ (σ 59 k).toInt ≤ 500) := id hI101
  obtain ⟨i28, w29, w30⟩ : (0 ≤ (σ 55 6).toInt ∧ (σ 55 6).toInt ≤ 4) ∧ (∀ k : Nat, k < 4 → 0 ≤ (σ 60 k).toInt ∧ (σ 60 k).toInt ≤ 50) ∧ (∀ k : Nat, k < 4 → 0 ≤ (σ 61 k).toInt ∧ (σ 61 k).toInt ≤ 20) := id hI102
  obtain ⟨i31, i32, i33, w34, w35⟩ : (1 ≤ (σ 55 10).toInt ∧ (σ 55 10).toInt ≤ 8) ∧ (1 ≤ (σ 55 12).toInt ∧ (σ 55 12).toInt ≤ 12) ∧ (0 ≤ (σ 55 13).toInt ∧ (σ 55 13).toInt ≤ 999) ∧ (∀ k : Nat, k < 8 → 0 ≤ (σ 62 k).toInt ∧ (σ 62 k).toInt ≤ 3) ∧ (∀ k : Nat, k < 8 → 0 ≤ (σ 67 k).toInt ∧ (σ 67 k).toInt ≤ 3) := id hI104
  obtain ⟨i36, w37⟩ : (0 ≤ (σ 55 15).toInt ∧ (σ 55 15).toInt ≤ 80) ∧ (∀ k : Nat, k < 2 → (-1) ≤ (σ 65 k).toInt ∧ (σ 65 k).toInt ≤ 80) := id hI105
  obtain ⟨i38, w39, w40, w41⟩ : (0 ≤ (σ 55 32).toInt ∧ (σ 55 32).toInt ≤ 20) ∧ (∀ k : Nat, k < 20 → 0 ≤ (σ 70 k).toInt ∧ (σ 70 k).toInt ≤ 6) ∧ (∀ k : Nat, k < 20 → 0 ≤ (σ 71 k).toInt ∧ (σ 71 k).toInt ≤ 8) ∧ (∀ k : Nat, k < 160 → 0 ≤ (σ 72 k).toInt ∧ (σ 72 k).toInt ≤ 3) := id hI106
  obtain ⟨i42, i43, w44⟩ : (0 ≤ (σ 55 47).toInt ∧ (σ 55 47).toInt ≤ 12) ∧ ((σ 55 47).toInt ≤ (σ 55 12).toInt) ∧ (∀ k : Nat, k < 12 → 0 ≤ (σ 80 k).toInt ∧ (σ 80 k).toInt ≤ 3) := id hI107
  refine lv_aload_n hx hb dL_law_694 rfl (lv_at hl 2 rfl) ?_
  refine lv_aload_n hx hb dL_law_695 rfl (lv_at hl 3 rfl) ?_
  refine lv_iload_n hx hb dL_law_696 rfl (lv_at hl 0 rfl) ?_
  refine lv_iconst (v := 1) hx hb dL_law_697 (of_decide_eq_true rfl) ?_
  have g45 := jrg (rfl : x0.toInt = x0.toInt)
  refine lv_iadd hx hb dL_law_698 ?_
  refine lv_topi (fun x46 ex46 => ?_)
  exact by
   have tx46 : x46.toInt = x0.toInt + 1 := (jadd ex46 rfl jz_1 (by omega) (by omega)).trans (by omega)
   refine va_sld hx hb hX hbl hbA hS (jin tx46 (by omega) (by omega)) dL_law_699 ?_
   have g47 := jrg (rfl : (xs x46.toNatClampNeg).toInt = (xs x46.toNatClampNeg).toInt)
   refine jcallV (As := [.int (xs x46.toNatClampNeg)]) (rest := []) ⟨hx, hb, hml, hown, hts⟩ hK hP hA hS hZ (c_X11_kept l D cI cL ad zz hJ σ τ (xs x46.toNatClampNeg) ((xs x46.toNatClampNeg).toInt) rfl hI2 hI16 hI22 hI31) cw_RL_81 (jc_0 cI cL ad σ τ) rfl ⟨Nat.le_of_ble_eq_true rfl, Nat.le_of_ble_eq_true rfl⟩ rfl rfl rfl hl.1 rfl (Nat.le_of_ble_eq_true rfl) dL_law_700 ⟨Nat.le_of_ble_eq_true rfl, Nat.le_of_ble_eq_true rfl⟩ (fun r49 σ48 τ48 H locs h48 hP hS => ?_)
   obtain ⟨rfl, f50, f51, I52, h48⟩ := h48
   refine lv_pop hx hb dL_law_703 rfl ?_
   refine lv_aload_n hx hb dL_law_704 rfl (lv_at hl 1 rfl) ?_
   refine lv_aload_n hx hb dL_law_705 rfl (lv_at hl 3 rfl) ?_
   refine lv_iload_n hx hb dL_law_706 rfl (lv_at hl 0 rfl) ?_
   exact by
    refine lv_iconst (v := 1) hx hb dL_law_707 (of_decide_eq_true rfl) ?_
    refine lv_iadd hx hb dL_law_708 ?_
    refine jtopr ex46.symm ?_
    refine va_sld hx hb hX hbl hbA hS (jin tx46 (by omega) (by omega)) dL_law_709 ?_
    have I54 : jI101 σ48 := jI101_fr (congrFun (f50 55 (of_decide_eq_true rfl)) 4) (congrFun (f50 55 (of_decide_eq_true rfl)) 5) (f50 56 (of_decide_eq_true rfl)) (f50 57 (of_decide_eq_true rfl)) (f50 58 (of_decide_eq_true rfl)) (f50 59 (of_decide_eq_true rfl)) hI101
    have I55 : jI102 σ48 := jI102_fr (congrFun (f50 55 (of_decide_eq_true rfl)) 6) (f50 60 (of_decide_eq_true rfl)) (f50 61 (of_decide_eq_true rfl)) hI102
    have I56 : jI103 σ48 := jI103_fr (congrFun (f50 55 (of_decide_eq_true rfl)) 9) hI103
    have I57 : jI104 σ48 := jI104_fr (congrFun (f50 55 (of_decide_eq_true rfl)) 10) (congrFun (f50 55 (of_decide_eq_true rfl)) 12) (congrFun (f50 55 (of_decide_eq_true rfl)) 13) (f50 62 (of_decide_eq_true rfl)) (f50 67 (of_decide_eq_true rfl)) hI104
    have I58 : jI105 σ48 := jI105_fr (congrFun (f50 55 (of_decide_eq_true rfl)) 15) (f50 65 (of_decide_eq_true rfl)) hI105
    exact by
     have I59 : jI106 σ48 := jI106_fr (congrFun (f50 55 (of_decide_eq_true rfl)) 32) (f50 70 (of_decide_eq_true rfl)) (f50 71 (of_decide_eq_true rfl)) (f50 72 (of_decide_eq_true rfl)) hI106
     have I60 : jI119 σ48 := jI119_fr (f50 68 (of_decide_eq_true rfl)) hI119
     have p61 : jKept σ48 := jKept.fr (f50 75 (of_decide_eq_true rfl)) (f50 76 (of_decide_eq_true rfl)) (f50 77 (of_decide_eq_true rfl)) hs_jKept
     refine jcallV (As := [.int (xs x46.toNatClampNeg)]) (rest := []) ⟨hx, hb, hml, hown, hts⟩ hK hP hA hS hZ (c_X12_kept l D cI cL ad zz hJ σ48 τ (xs x46.toNatClampNeg) ((xs x46.toNatClampNeg).toInt) rfl I54 I55 I56 I57 I58 I59 I60 p61) cw_RL_84 (jc_55 cI cL ad σ48 τ) rfl ⟨Nat.le_of_ble_eq_true rfl, Nat.le_of_ble_eq_true rfl⟩ rfl rfl rfl hl.1 rfl (Nat.le_of_ble_eq_true rfl) dL_law_710 ⟨Nat.le_of_ble_eq_true rfl, Nat.le_of_ble_eq_true rfl⟩ (fun r63 σ62 τ62 H locs h62 hP hS => ?_)
     obtain ⟨rfl, f64, f65, I66, p67, h62⟩ := h62
     refine lv_pop hx hb dL_law_713 rfl ?_
     refine lv_goto (tgt := 1357) hx hb dL_law_714 (of_decide_eq_true rfl) ?_
     obtain ⟨x69, ex69⟩ : ∃ y : Int32, y = x0 + 6 := ⟨_, rfl⟩
     have tx69 : x69.toInt = x0.toInt + 6 := (jadd ex69 rfl jz_6 (by omega) (by omega)).trans (by omega)
     exact by
      refine lv_iinc (v := x69) (lv' := [(3, .int x69), (2, .ref (ad 55)), (1, .ref (ad 0)), (0, .ref b)]) hx hb dL_law_1357 hl (k := 0) rfl (by rw [ex69]; rfl) (of_decide_eq_true rfl) rfl (fun ls hl => ?_)
      refine lv_goto (tgt := 18) hx hb dL_law_1360 (of_decide_eq_true rfl) ?_
      have I70 : jI2 σ62 := jI2_fr ((congrFun (f64 2 (of_decide_eq_true rfl)) 0).trans (congrFun (f50 2 (of_decide_eq_true rfl)) 0)) ((congrFun (f64 2 (of_decide_eq_true rfl)) 1).trans (congrFun (f50 2 (of_decide_eq_true rfl)) 1)) ((congrFun (f64 2 (of_decide_eq_true rfl)) 2).trans (congrFun (f50 2 (of_decide_eq_true rfl)) 2)) ((congrFun (f64 2 (of_decide_eq_true rfl)) 3).trans (congrFun (f50 2 (of_decide_eq_true rfl)) 3)) ((f64 6 (of_decide_eq_true rfl)).trans (f50 6 (of_decide_eq_true rfl))) hI2
      have I71 : jI9 σ62 := jI9_fr ((congrFun (f64 9 (of_decide_eq_true rfl)) 0).trans (congrFun (f50 9 (of_decide_eq_true rfl)) 0)) ((f64 10 (of_decide_eq_true rfl)).trans (f50 10 (of_decide_eq_true rfl))) ((f64 11 (of_decide_eq_true rfl)).trans (f50 11 (of_decide_eq_true rfl))) hI9
      have I72 : jI12 σ62 := jI12_fr ((congrFun (f64 12 (of_decide_eq_true rfl)) 0).trans (congrFun (f50 12 (of_decide_eq_true rfl)) 0)) ((f64 13 (of_decide_eq_true rfl)).trans (f50 13 (of_decide_eq_true rfl))) hI12
      have I73 : jI16 σ62 := jI16_fr ((congrFun (f64 16 (of_decide_eq_true rfl)) 0).trans (congrFun (f50 16 (of_decide_eq_true rfl)) 0)) ((congrFun (f64 16 (of_decide_eq_true rfl)) 1).trans (congrFun (f50 16 (of_decide_eq_true rfl)) 1)) ((congrFun (f64 16 (of_decide_eq_true rfl)) 2).trans (congrFun (f50 16 (of_decide_eq_true rfl)) 2)) ((f64 17 (of_decide_eq_true rfl)).trans (f50 17 (of_decide_eq_true rfl))) hI16
      have I74 : jI18 σ62 := jI18_fr ((congrFun (f64 18 (of_decide_eq_true rfl)) 0).trans (congrFun (f50 18 (of_decide_eq_true rfl)) 0)) ((f64 19 (of_decide_eq_true rfl)).trans (f50 19 (of_decide_eq_true rfl))) hI18
      have I75 : jI22 σ62 := jI22_fr ((congrFun (f64 22 (of_decide_eq_true rfl)) 0).trans (congrFun (f50 22 (of_decide_eq_true rfl)) 0)) ((f64 23 (of_decide_eq_true rfl)).trans (f50 23 (of_decide_eq_true rfl))) hI22
      have I76 : jI31 σ62 := jI31_fr (congrFun (f64 31 (of_decide_eq_true rfl)) 8) (f64 33 (of_decide_eq_true rfl)) (f64 36 (of_decide_eq_true rfl)) I52
      have I77 : jI38 σ62 := jI38_fr ((congrFun (f64 38 (of_decide_eq_true rfl)) 0).trans (congrFun (f50 38 (of_decide_eq_true rfl)) 0)) ((congrFun (f64 38 (of_decide_eq_true rfl)) 1).trans (congrFun (f50 38 (of_decide_eq_true rfl)) 1)) ((f64 39 (of_decide_eq_true rfl)).trans (f50 39 (of_decide_eq_true rfl))) hI38
      have I78 : jI43 σ62 := jI43_fr ((congrFun (f64 43 (of_decide_eq_true rfl)) 8).trans (congrFun (f50 43 (of_decide_eq_true rfl)) 8)) hI43
      have I79 : jI47 σ62 := jI47_fr ((congrFun (f64 47 (of_decide_eq_true rfl)) 0).trans (congrFun (f50 47 (of_decide_eq_true rfl)) 0)) ((f64 48 (of_decide_eq_true rfl)).trans (f50 48 (of_decide_eq_true rfl))) ((f64 49 (of_decide_eq_true rfl)).trans (f50 49 (of_decide_eq_true rfl))) hI47
      have I80 : jI50 σ62 := jI50_fr ((f64 52 (of_decide_eq_true rfl)).trans (f50 52 (of_decide_eq_true rfl))) hI50
      have I81 : jI101 σ62 := jI101_fr (f65 4 (of_decide_eq_true rfl)) (f65 5 (of_decide_eq_true rfl)) (f64 56 (of_decide_eq_true rfl)) (f64 57 (of_decide_eq_true rfl)) (f64 58 (of_decide_eq_true rfl)) (f64 59 (of_decide_eq_true rfl)) I54
      have I82 : jI102 σ62 := jI102_fr (f65 6 (of_decide_eq_true rfl)) (f64 60 (of_decide_eq_true rfl)) (f64 61 (of_decide_eq_true rfl)) I55
      have I83 : jI103 σ62 := jI103_fr (f65 9 (of_decide_eq_true rfl)) I56
      have I84 : jI104 σ62 := jI104_fr (f65 10 (of_decide_eq_true rfl)) (f65 12 (of_decide_eq_true rfl)) (f65 13 (of_decide_eq_true rfl)) (f64 62 (of_decide_eq_true rfl)) (f64 67 (of_decide_eq_true rfl)) I57
      have I85 : jI105 σ62 := jI105_fr (f65 15 (of_decide_eq_true rfl)) (f64 65 (of_decide_eq_true rfl)) I58
      have I86 : jI106 σ62 := jI106_fr (f65 32 (of_decide_eq_true rfl)) (f64 70 (of_decide_eq_true rfl)) (f64 71 (of_decide_eq_true rfl)) (f64 72 (of_decide_eq_true rfl)) I59
      have I87 : jI107 σ62 := jI107_fr ((f65 12 (of_decide_eq_true rfl)).trans (congrFun (f50 55 (of_decide_eq_true rfl)) 12)) ((f65 47 (of_decide_eq_true rfl)).trans (congrFun (f50 55 (of_decide_eq_true rfl)) 47)) ((f64 80 (of_decide_eq_true rfl)).trans (f50 80 (of_decide_eq_true rfl))) hI107
      have I88 : jI109 σ62 := jI109_fr ((f65 50 (of_decide_eq_true rfl)).trans (congrFun (f50 55 (of_decide_eq_true rfl)) 50)) hI109
      have I89 : jI110 σ62 := jI110_fr ((f64 86 (of_decide_eq_true rfl)).trans (f50 86 (of_decide_eq_true rfl))) ((f64 87 (of_decide_eq_true rfl)).trans (f50 87 (of_decide_eq_true rfl))) hI110
      have I90 : jI111 σ62 := jI111_fr ((f64 79 (of_decide_eq_true rfl)).trans (f50 79 (of_decide_eq_true rfl))) hI111
      have p91 : jBook σ62 := jBook.fr ((f65 47 (of_decide_eq_true rfl)).trans (congrFun (f50 55 (of_decide_eq_true rfl)) 47)) ((f65 10 (of_decide_eq_true rfl)).trans (congrFun (f50 55 (of_decide_eq_true rfl)) 10)) ((f64 81 (of_decide_eq_true rfl)).trans (f50 81 (of_decide_eq_true rfl))) hs_jBook
      have z92 : (σ62 2 0).toInt = (σ 2 0).toInt := (congrArg Int32.toInt (show σ62 2 0 = (σ 2 0) from ((congrFun (f64 2 (of_decide_eq_true rfl)) 0).trans (congrFun (f50 2 (of_decide_eq_true rfl)) 0))))
      have z93 : (σ62 55 6).toInt = (σ 55 6).toInt := (congrArg Int32.toInt (show σ62 55 6 = (σ 55 6) from ((f65 6 (of_decide_eq_true rfl)).trans (congrFun (f50 55 (of_decide_eq_true rfl)) 6))))
      have z94 : (σ62 2 2).toInt = (σ 2 2).toInt := (congrArg Int32.toInt (show σ62 2 2 = (σ 2 2) from ((congrFun (f64 2 (of_decide_eq_true rfl)) 2).trans (congrFun (f50 2 (of_decide_eq_true rfl)) 2))))
      have z95 : (σ62 55 5).toInt = (σ 55 5).toInt := (congrArg Int32.toInt (show σ62 55 5 = (σ 55 5) from ((f65 5 (of_decide_eq_true rfl)).trans (congrFun (f50 55 (of_decide_eq_true rfl)) 5))))
      have z96 : (σ62 2 3).toInt = (σ 2 3).toInt := (congrArg Int32.toInt (show σ62 2 3 = (σ 2 3) from ((congrFun (f64 2 (of_decide_eq_true rfl)) 3).trans (congrFun (f50 2 (of_decide_eq_true rfl)) 3))))
      have z97 : (σ62 55 4).toInt = (σ 55 4).toInt := (congrArg Int32.toInt (show σ62 55 4 = (σ 55 4) from ((f65 4 (of_decide_eq_true rfl)).trans (congrFun (f50 55 (of_decide_eq_true rfl)) 4))))
      have z98 : (σ62 9 0).toInt = (σ 9 0).toInt := (congrArg Int32.toInt (show σ62 9 0 = (σ 9 0) from ((congrFun (f64 9 (of_decide_eq_true rfl)) 0).trans (congrFun (f50 9 (of_decide_eq_true rfl)) 0))))
      have z99 : (σ62 55 15).toInt = (σ 55 15).toInt := (congrArg Int32.toInt (show σ62 55 15 = (σ 55 15) from ((f65 15 (of_decide_eq_true rfl)).trans (congrFun (f50 55 (of_decide_eq_true rfl)) 15))))
      have z100 : (σ62 16 0).toInt = (σ 16 0).toInt := (congrArg Int32.toInt (show σ62 16 0 = (σ 16 0) from ((congrFun (f64 16 (of_decide_eq_true rfl)) 0).trans (congrFun (f50 16 (of_decide_eq_true rfl)) 0))))
      have z101 : (σ62 55 10).toInt = (σ 55 10).toInt := (congrArg Int32.toInt (show σ62 55 10 = (σ 55 10) from ((f65 10 (of_decide_eq_true rfl)).trans (congrFun (f50 55 (of_decide_eq_true rfl)) 10))))
      have z102 : (σ62 16 1).toInt = (σ 16 1).toInt := (congrArg Int32.toInt (show σ62 16 1 = (σ 16 1) from ((congrFun (f64 16 (of_decide_eq_true rfl)) 1).trans (congrFun (f50 16 (of_decide_eq_true rfl)) 1))))
      have z103 : (σ62 55 12).toInt = (σ 55 12).toInt := (congrArg Int32.toInt (show σ62 55 12 = (σ 55 12) from ((f65 12 (of_decide_eq_true rfl)).trans (congrFun (f50 55 (of_decide_eq_true rfl)) 12))))
      have z104 : (σ62 16 2).toInt = (σ 16 2).toInt := (congrArg Int32.toInt (show σ62 16 2 = (σ 16 2) from ((congrFun (f64 16 (of_decide_eq_true rfl)) 2).trans (congrFun (f50 16 (of_decide_eq_true rfl)) 2))))
      have z105 : (σ62 55 13).toInt = (σ 55 13).toInt := (congrArg Int32.toInt (show σ62 55 13 = (σ 55 13) from ((f65 13 (of_decide_eq_true rfl)).trans (congrFun (f50 55 (of_decide_eq_true rfl)) 13))))
      have z106 : (σ62 38 0).toInt = (σ 38 0).toInt := (congrArg Int32.toInt (show σ62 38 0 = (σ 38 0) from ((congrFun (f64 38 (of_decide_eq_true rfl)) 0).trans (congrFun (f50 38 (of_decide_eq_true rfl)) 0))))
      have z107 : (σ62 55 32).toInt = (σ 55 32).toInt := (congrArg Int32.toInt (show σ62 55 32 = (σ 55 32) from ((f65 32 (of_decide_eq_true rfl)).trans (congrFun (f50 55 (of_decide_eq_true rfl)) 32))))
      have z108 : (σ62 38 1).toInt = (σ 38 1).toInt := (congrArg Int32.toInt (show σ62 38 1 = (σ 38 1) from ((congrFun (f64 38 (of_decide_eq_true rfl)) 1).trans (congrFun (f50 38 (of_decide_eq_true rfl)) 1))))
      have z109 : (σ62 55 55).toInt = (σ 55 55).toInt := (congrArg Int32.toInt (show σ62 55 55 = (σ 55 55) from ((f65 55 (of_decide_eq_true rfl)).trans (congrFun (f50 55 (of_decide_eq_true rfl)) 55))))
      have z110 : (σ62 47 0).toInt = (σ 47 0).toInt := (congrArg Int32.toInt (show σ62 47 0 = (σ 47 0) from ((congrFun (f64 47 (of_decide_eq_true rfl)) 0).trans (congrFun (f50 47 (of_decide_eq_true rfl)) 0))))
      have z111 : (σ62 55 47).toInt = (σ 55 47).toInt := (congrArg Int32.toInt (show σ62 55 47 = (σ 55 47) from ((f65 47 (of_decide_eq_true rfl)).trans (congrFun (f50 55 (of_decide_eq_true rfl)) 47))))
      have z112 : (σ62 55 30).toInt = (σ 55 30).toInt := (congrArg Int32.toInt (show σ62 55 30 = (σ 55 30) from ((f65 30 (of_decide_eq_true rfl)).trans (congrFun (f50 55 (of_decide_eq_true rfl)) 30))))
      have z113 : (σ62 55 31).toInt = (σ 55 31).toInt := (congrArg Int32.toInt (show σ62 55 31 = (σ 55 31) from ((f65 31 (of_decide_eq_true rfl)).trans (congrFun (f50 55 (of_decide_eq_true rfl)) 31))))
      exact by exact ih x69 σ62 τ _ _ ls (by have h9 := tx69; omega) ⟨I70, I71, I72, I73, I74, I75, I76, I77, I78, I79, I80, I81, I82, I83, I84, I85, I86, I87, I88, I89, I90, I66, p67, p91, (by omega), (by omega), (by omega), (by omega), (by omega), (by omega), (by omega), (by omega), (by omega), (by omega), (by omega), (by omega), (show jNumP (σ62 3) (σ62 56) (σ62 6) (σ62 57) (σ62 7) (σ62 58) (σ62 8) (σ62 59) (σ62 55 6).toInt (σ62 55 4).toInt by rw [show σ62 3 = σ 3 from ((f64 3 (of_decide_eq_true rfl)).trans (f50 3 (of_decide_eq_true rfl))), show σ62 56 = σ 56 from ((f64 56 (of_decide_eq_true rfl)).trans (f50 56 (of_decide_eq_true rfl))), show σ62 6 = σ 6 from ((f64 6 (of_decide_eq_true rfl)).trans (f50 6 (of_decide_eq_true rfl))), show σ62 57 = σ 57 from ((f64 57 (of_decide_eq_true rfl)).trans (f50 57 (of_decide_eq_true rfl))), show σ62 7 = σ 7 from ((f64 7 (of_decide_eq_true rfl)).trans (f50 7 (of_decide_eq_true rfl))), show σ62 58 = σ 58 from ((f64 58 (of_decide_eq_true rfl)).trans (f50 58 (of_decide_eq_true rfl))), show σ62 8 = σ 8 from ((f64 8 (of_decide_eq_true rfl)).trans (f50 8 (of_decide_eq_true rfl))), show σ62 59 = σ 59 from ((f64 59 (of_decide_eq_true rfl)).trans (f50 59 (of_decide_eq_true rfl))), show (σ62 55 6).toInt = (σ 55 6).toInt from by omega, show (σ62 55 4).toInt = (σ 55 4).toInt from by omega]; exact hr0), (show jOvP (σ62 56) (σ62 57) (σ62 58) (σ62 59) (σ62 55 4).toInt by rw [show σ62 56 = σ 56 from ((f64 56 (of_decide_eq_true rfl)).trans (f50 56 (of_decide_eq_true rfl))), show σ62 57 = σ 57 from ((f64 57 (of_decide_eq_true rfl)).trans (f50 57 (of_decide_eq_true rfl))), show σ62 58 = σ 58 from ((f64 58 (of_decide_eq_true rfl)).trans (f50 58 (of_decide_eq_true rfl))), show σ62 59 = σ 59 from ((f64 59 (of_decide_eq_true rfl)).trans (f50 59 (of_decide_eq_true rfl))), show (σ62 55 4).toInt = (σ 55 4).toInt from by omega]; exact hr1), (show jTp (σ62 10) (σ62 63) (σ62 55 15).toInt by rw [show σ62 10 = σ 10 from ((f64 10 (of_decide_eq_true rfl)).trans (f50 10 (of_decide_eq_true rfl))), show σ62 63 = σ 63 from ((f64 63 (of_decide_eq_true rfl)).trans (f50 63 (of_decide_eq_true rfl)))]; exact hr2.le (by omega)), (show jSo (σ62 17) (σ62 62) (σ62 16 0).toInt by rw [show σ62 17 = σ 17 from ((f64 17 (of_decide_eq_true rfl)).trans (f50 17 (of_decide_eq_true rfl))), show σ62 62 = σ 62 from ((f64 62 (of_decide_eq_true rfl)).trans (f50 62 (of_decide_eq_true rfl))), show (σ62 16 0).toInt = (σ 16 0).toInt from by omega]; exact hr3), (show jShP (σ62 51) (σ62 52) (σ62 53) (σ62 86) (σ62 87) (σ62 55 32).toInt by rw [show σ62 51 = σ 51 from ((f64 51 (of_decide_eq_true rfl)).trans (f50 51 (of_decide_eq_true rfl))), show σ62 52 = σ 52 from ((f64 52 (of_decide_eq_true rfl)).trans (f50 52 (of_decide_eq_true rfl))), show σ62 53 = σ 53 from ((f64 53 (of_decide_eq_true rfl)).trans (f50 53 (of_decide_eq_true rfl))), show σ62 86 = σ 86 from ((f64 86 (of_decide_eq_true rfl)).trans (f50 86 (of_decide_eq_true rfl))), show σ62 87 = σ 87 from ((f64 87 (of_decide_eq_true rfl)).trans (f50 87 (of_decide_eq_true rfl)))]; exact (hr4.up (by omega) (by omega))), (show jEl (σ62 51) (σ62 52) (τ 54) (τ 88) by rw [show σ62 51 = σ 51 from ((f64 51 (of_decide_eq_true rfl)).trans (f50 51 (of_decide_eq_true rfl))), show σ62 52 = σ 52 from ((f64 52 (of_decide_eq_true rfl)).trans (f50 52 (of_decide_eq_true rfl)))]; exact hr5), (show jByP (σ62 51) (σ62 52) (τ 54) by rw [show σ62 51 = σ 51 from ((f64 51 (of_decide_eq_true rfl)).trans (f50 51 (of_decide_eq_true rfl))), show σ62 52 = σ 52 from ((f64 52 (of_decide_eq_true rfl)).trans (f50 52 (of_decide_eq_true rfl)))]; exact hr6), (show jBk (σ62 48) (σ62 80) (σ62 49) (σ62 81) (σ62 55 47).toInt by rw [show σ62 48 = σ 48 from ((f64 48 (of_decide_eq_true rfl)).trans (f50 48 (of_decide_eq_true rfl))), show σ62 49 = σ 49 from ((f64 49 (of_decide_eq_true rfl)).trans (f50 49 (of_decide_eq_true rfl))), show σ62 80 = σ 80 from ((f64 80 (of_decide_eq_true rfl)).trans (f50 80 (of_decide_eq_true rfl))), show σ62 81 = σ 81 from ((f64 81 (of_decide_eq_true rfl)).trans (f50 81 (of_decide_eq_true rfl))), show (σ62 55 47).toInt = (σ 55 47).toInt from by omega]; exact hr7), (show jKd (σ62 39) (σ62 70) (σ62 55 32).toInt by rw [show σ62 39 = σ 39 from ((f64 39 (of_decide_eq_true rfl)).trans (f50 39 (of_decide_eq_true rfl))), show σ62 70 = σ 70 from ((f64 70 (of_decide_eq_true rfl)).trans (f50 70 (of_decide_eq_true rfl))), show (σ62 55 32).toInt = (σ 55 32).toInt from by omega]; exact hr8), (show jTt (σ62 42) (σ62 85) (σ62 55 55).toInt by rw [show σ62 42 = σ 42 from ((f64 42 (of_decide_eq_true rfl)).trans (f50 42 (of_decide_eq_true rfl))), show σ62 85 = σ 85 from ((f64 85 (of_decide_eq_true rfl)).trans (f50 85 (of_decide_eq_true rfl))), show (σ62 55 55).toInt = (σ 55 55).toInt from by omega]; exact hr9)⟩ hP hS (lv_sub hl [0, 1, 2, 3] rfl)
set_option maxHeartbeats 4000000 in
set_option maxRecDepth 100000 in
theorem law_case_17 {p : Program} {e : Env} {s : State} {m : MethodId} {below : List Frame} {meth : Method} {c : Code} (l : Launch) {b L : Nat} {xs : Nat → Int32} {D : va_G} {cI cL : ClassId} {ad zz : Nat → Nat} (C0 : lw_At p s m meth c b L xs) (hJ : jD ad) (hA : ∀ q, jA ad q → s.heap.size ≤ q) (hK : jK D cI cL s) (hZ : jZ zz (fun q : Nat => s.heap.size ≤ q) s s.heap) {x0 : Int32} (hx0 : 0 ≤ x0.toInt) (hxL : x0.toInt + 6 ≤ (L : Int)) (hL : L ≤ 384) {σ : Nat → Nat → Int32} {τ : Nat → Nat → Int64} {H : Heap} {locs : List Loc} (hS : va_S (fun q : Nat => s.heap.size ≤ q) s.heap H locs) {ls : Array Slot} (hAll : jAll σ τ) (hP : jH D cI cL ad σ τ H) (hl : lv_has ls 4 [(3, .int x0), (2, .ref (ad 55)), (1, .ref (ad 0)), (0, .ref b)]) (ih : ∀ (x1 : Int32) (σ : Nat → Nat → Int32) (τ : Nat → Nat → Int64) (H : Heap) (locs : List Loc) (ls : Array Slot), x1.toInt = x0.toInt + 6 → jAll σ τ → jH D cI cL ad σ τ H → va_S (fun q : Nat => s.heap.size ≤ q) s.heap H locs → lv_has ls 4 [(3, .int x1), (2, .ref (ad 55)), (1, .ref (ad 0)), (0, .ref b)] → W p l e room_1 s m #[Value.ref b] below meth c H locs 90 348600 (lw_Z below #[Value.ref b] s) (F0 m 18 ls [])) : W p l e room_1 s m #[Value.ref b] below meth c H locs 90 348600 (lw_Z below #[Value.ref b] s) (F0 m 717 ls []) := by
  obtain ⟨hx, hb, hr, hml, hown, hts0, hX, hbl, hlocks, hgv⟩ := C0
  have hts : ∀ w ∈ wsL_law, w.before #[Value.ref b] s = true := fun w h => hts0 w (wsL_law_in w h)
  have hbA : ¬ (fun q : Nat => s.heap.size ≤ q) b := Nat.not_le.mpr hbl
  have hown : s.vm.findClass RL = some m.cls := hown
  obtain ⟨hI2, hI9, hI12, hI16, hI18, hI22, hI31, hI38, hI43, hI47, hI50, hI101, hI102, hI103, hI104, hI105, hI106, hI107, hI109, hI110, hI111, hI119, hs_jKept, hs_jBook, ht0, ht1, ht2, ht3, ht4, ht5, ht6, ht7, ht8, ht9, ht10, ht11, hr0, hr1, hr2, hr3, hr4, hr5, hr6, hr7, hr8, hr9⟩ := hAll
  have hL9 : (L : Int) ≤ 384 := by omega
  obtain ⟨i1, i2, i3, i4, i5, w6⟩ : (0 ≤ (σ 2 0).toInt ∧ (σ 2 0).toInt ≤ 4) ∧ (0 ≤ (σ 2 1).toInt ∧ (σ 2 1).toInt ≤ 3) ∧ (0 ≤ (σ 2 2).toInt) ∧ (0 ≤ (σ 2 3).toInt) ∧ ((σ 2 2).toInt + (σ 2 3).toInt ≤ 40) ∧ (∀ k : Nat, k < 40 → 0 ≤ (σ 6 k).toInt ∧ (σ 6 k).toInt ≤ 67) := id hI2
  obtain ⟨i7, w8, w9⟩ : (0 ≤ (σ 9 0).toInt ∧ (σ 9 0).toInt ≤ 80) ∧ (∀ k : Nat, k < 80 → 0 ≤ (σ 10 k).toInt ∧ (σ 10 k).toInt ≤ 255) ∧ (∀ k : Nat, k < 8 → 0 ≤ (σ 11 k).toInt ∧ (σ 11 k).toInt ≤ 3) := id hI9
  obtain ⟨i10, i11, i12, w13⟩ : (1 ≤ (σ 16 0).toInt ∧ (σ 16 0).toInt ≤ 8) ∧ (1 ≤ (σ 16 1).toInt ∧ (σ 16 1).toInt ≤ 12) ∧ (0 ≤ (σ 16 2).toInt ∧ (σ 16 2).toInt ≤ 999) ∧ (∀ k : Nat, k < 8 → 0 ≤ (σ 17 k).toInt ∧ (σ 17 k).toInt ≤ 3) := id hI16
  obtain ⟨i14, i15, w16⟩ : (0 ≤ (σ 38 0).toInt ∧ (σ 38 0).toInt ≤ 20) ∧ (0 ≤ (σ 38 1).toInt ∧ (σ 38 1).toInt ≤ 1000) ∧ (∀ k : Nat, k < 20 → 0 ≤ (σ 39 k).toInt ∧ (σ 39 k).toInt ≤ 6) := id hI38
  obtain ⟨i17, w18, w19⟩ : (0 ≤ (σ 47 0).toInt ∧ (σ 47 0).toInt ≤ 12) ∧ (∀ k : Nat, k < 12 → 0 ≤ (σ 48 k).toInt ∧ (σ 48 k).toInt ≤ 3) ∧ (∀ k : Nat, k < 12 → 0 ≤ (σ 49 k).toInt ∧ (σ 49 k).toInt ≤ 1) := id hI47
  have w20 : ∀ k : Nat, k < 6 → 0 ≤ (σ 52 k).toInt ∧ (σ 52 k).toInt ≤ 60 := hI50
  obtain ⟨i21, i22, i23, w24, w25, w26, w27⟩ : (0 ≤ (σ 55 5).toInt) ∧ ((σ 55 5).toInt ≤ (σ 55 4).toInt) ∧ ((σ 55 4).toInt ≤ 40) ∧ (∀ k : Nat, k < 68 → (-200) ≤ (σ 56 k).toInt ∧ (σ 56 k).toInt ≤ 500) ∧ (∀ k : Nat, k < 40 → 0 ≤ (σ 57 k).toInt ∧ (σ 57 k).toInt ≤ 67) ∧ (∀ k : Nat, k < 40 → (-200) ≤ (σ 58 k).toInt ∧ (σ 58 k).toInt ≤ 500) ∧ (∀ k : Nat, k < 40 → (-200) ≤ (σ 59 k).toInt ∧ (σ 59 k).toInt ≤ 500) := id hI101
  obtain ⟨i28, w29, w30⟩ : (0 ≤ (σ 55 6).toInt ∧ (σ 55 6).toInt ≤ 4) ∧ (∀ k : Nat, k < 4 → 0 ≤ (σ 60 k).toInt ∧ (σ 60 k).toInt ≤ 50) ∧ (∀ k : Nat, k < 4 → 0 ≤ (σ 61 k).toInt ∧ (σ 61 k).toInt ≤ 20) := id hI102
  obtain ⟨i31, i32, i33, w34, w35⟩ : (1 ≤ (σ 55 10).toInt ∧ (σ 55 10).toInt ≤ 8) ∧ (1 ≤ (σ 55 12).toInt ∧ (σ 55 12).toInt ≤ 12) ∧ (0 ≤ (σ 55 13).toInt ∧ (σ 55 13).toInt ≤ 999) ∧ (∀ k : Nat, k < 8 → 0 ≤ (σ 62 k).toInt ∧ (σ 62 k).toInt ≤ 3) ∧ (∀ k : Nat, k < 8 → 0 ≤ (σ 67 k).toInt ∧ (σ 67 k).toInt ≤ 3) := id hI104
  obtain ⟨i36, w37⟩ : (0 ≤ (σ 55 15).toInt ∧ (σ 55 15).toInt ≤ 80) ∧ (∀ k : Nat, k < 2 → (-1) ≤ (σ 65 k).toInt ∧ (σ 65 k).toInt ≤ 80) := id hI105
  obtain ⟨i38, w39, w40, w41⟩ : (0 ≤ (σ 55 32).toInt ∧ (σ 55 32).toInt ≤ 20) ∧ (∀ k : Nat, k < 20 → 0 ≤ (σ 70 k).toInt ∧ (σ 70 k).toInt ≤ 6) ∧ (∀ k : Nat, k < 20 → 0 ≤ (σ 71 k).toInt ∧ (σ 71 k).toInt ≤ 8) ∧ (∀ k : Nat, k < 160 → 0 ≤ (σ 72 k).toInt ∧ (σ 72 k).toInt ≤ 3) := id hI106
  obtain ⟨i42, i43, w44⟩ : (0 ≤ (σ 55 47).toInt ∧ (σ 55 47).toInt ≤ 12) ∧ ((σ 55 47).toInt ≤ (σ 55 12).toInt) ∧ (∀ k : Nat, k < 12 → 0 ≤ (σ 80 k).toInt ∧ (σ 80 k).toInt ≤ 3) := id hI107
  refine lv_aload_n hx hb dL_law_717 rfl (lv_at hl 2 rfl) ?_
  refine lv_aload_n hx hb dL_law_718 rfl (lv_at hl 3 rfl) ?_
  refine lv_iload_n hx hb dL_law_719 rfl (lv_at hl 0 rfl) ?_
  refine lv_iconst (v := 1) hx hb dL_law_720 (of_decide_eq_true rfl) ?_
  have g45 := jrg (rfl : x0.toInt = x0.toInt)
  refine lv_iadd hx hb dL_law_721 ?_
  refine lv_topi (fun x46 ex46 => ?_)
  exact by
   have tx46 : x46.toInt = x0.toInt + 1 := (jadd ex46 rfl jz_1 (by omega) (by omega)).trans (by omega)
   refine va_sld hx hb hX hbl hbA hS (jin tx46 (by omega) (by omega)) dL_law_722 ?_
   have g47 := jrg (rfl : (xs x46.toNatClampNeg).toInt = (xs x46.toNatClampNeg).toInt)
   refine jcallV (As := [.int (xs x46.toNatClampNeg)]) (rest := []) ⟨hx, hb, hml, hown, hts⟩ hK hP hA hS hZ (c_X11_theirs l D cI cL ad zz hJ σ τ (xs x46.toNatClampNeg) ((xs x46.toNatClampNeg).toInt) rfl hI2 hI16 hI22 hI31) cw_RL_85 (jc_0 cI cL ad σ τ) rfl ⟨Nat.le_of_ble_eq_true rfl, Nat.le_of_ble_eq_true rfl⟩ rfl rfl rfl hl.1 rfl (Nat.le_of_ble_eq_true rfl) dL_law_723 ⟨Nat.le_of_ble_eq_true rfl, Nat.le_of_ble_eq_true rfl⟩ (fun r49 σ48 τ48 H locs h48 hP hS => ?_)
   obtain ⟨rfl, f50, f51, I52, h48⟩ := h48
   refine lv_pop hx hb dL_law_726 rfl ?_
   refine lv_aload_n hx hb dL_law_727 rfl (lv_at hl 1 rfl) ?_
   refine lv_aload_n hx hb dL_law_728 rfl (lv_at hl 3 rfl) ?_
   refine lv_iload_n hx hb dL_law_729 rfl (lv_at hl 0 rfl) ?_
   exact by
    refine lv_iconst (v := 1) hx hb dL_law_730 (of_decide_eq_true rfl) ?_
    refine lv_iadd hx hb dL_law_731 ?_
    refine jtopr ex46.symm ?_
    refine va_sld hx hb hX hbl hbA hS (jin tx46 (by omega) (by omega)) dL_law_732 ?_
    have I54 : jI101 σ48 := jI101_fr (congrFun (f50 55 (of_decide_eq_true rfl)) 4) (congrFun (f50 55 (of_decide_eq_true rfl)) 5) (f50 56 (of_decide_eq_true rfl)) (f50 57 (of_decide_eq_true rfl)) (f50 58 (of_decide_eq_true rfl)) (f50 59 (of_decide_eq_true rfl)) hI101
    have I55 : jI102 σ48 := jI102_fr (congrFun (f50 55 (of_decide_eq_true rfl)) 6) (f50 60 (of_decide_eq_true rfl)) (f50 61 (of_decide_eq_true rfl)) hI102
    have I56 : jI103 σ48 := jI103_fr (congrFun (f50 55 (of_decide_eq_true rfl)) 9) hI103
    have I57 : jI104 σ48 := jI104_fr (congrFun (f50 55 (of_decide_eq_true rfl)) 10) (congrFun (f50 55 (of_decide_eq_true rfl)) 12) (congrFun (f50 55 (of_decide_eq_true rfl)) 13) (f50 62 (of_decide_eq_true rfl)) (f50 67 (of_decide_eq_true rfl)) hI104
    have I58 : jI105 σ48 := jI105_fr (congrFun (f50 55 (of_decide_eq_true rfl)) 15) (f50 65 (of_decide_eq_true rfl)) hI105
    exact by
     have I59 : jI106 σ48 := jI106_fr (congrFun (f50 55 (of_decide_eq_true rfl)) 32) (f50 70 (of_decide_eq_true rfl)) (f50 71 (of_decide_eq_true rfl)) (f50 72 (of_decide_eq_true rfl)) hI106
     have I60 : jI119 σ48 := jI119_fr (f50 68 (of_decide_eq_true rfl)) hI119
     have I61 : jI111 σ48 := jI111_fr (f50 79 (of_decide_eq_true rfl)) hI111
     have p62 : jKept σ48 := jKept.fr (f50 75 (of_decide_eq_true rfl)) (f50 76 (of_decide_eq_true rfl)) (f50 77 (of_decide_eq_true rfl)) hs_jKept
     refine jcallV (As := [.int (xs x46.toNatClampNeg)]) (rest := []) ⟨hx, hb, hml, hown, hts⟩ hK hP hA hS hZ (c_X12_theirs l D cI cL ad zz hJ σ48 τ (xs x46.toNatClampNeg) ((xs x46.toNatClampNeg).toInt) rfl I54 I55 I56 I57 I58 I59 I60 I61 p62) cw_RL_88 (jc_55 cI cL ad σ48 τ) rfl ⟨Nat.le_of_ble_eq_true rfl, Nat.le_of_ble_eq_true rfl⟩ rfl rfl rfl hl.1 rfl (Nat.le_of_ble_eq_true rfl) dL_law_733 ⟨Nat.le_of_ble_eq_true rfl, Nat.le_of_ble_eq_true rfl⟩ (fun r64 σ63 τ63 H locs h63 hP hS => ?_)
     obtain ⟨rfl, f65, f66, I67, I68, I69, p70, w71, h63⟩ := h63
     obtain ⟨i73, i74, i75, w76, w77⟩ : (1 ≤ (σ63 55 10).toInt ∧ (σ63 55 10).toInt ≤ 8) ∧ (1 ≤ (σ63 55 12).toInt ∧ (σ63 55 12).toInt ≤ 12) ∧ (0 ≤ (σ63 55 13).toInt ∧ (σ63 55 13).toInt ≤ 999) ∧ (∀ k : Nat, k < 8 → 0 ≤ (σ63 62 k).toInt ∧ (σ63 62 k).toInt ≤ 3) ∧ (∀ k : Nat, k < 8 → 0 ≤ (σ63 67 k).toInt ∧ (σ63 67 k).toInt ≤ 3) := id I67
     have z78 : (σ63 55 10).toInt = (σ 55 10).toInt := (congrArg Int32.toInt (show σ63 55 10 = (σ 55 10) from ((f66 10 (of_decide_eq_true rfl)).trans (congrFun (f50 55 (of_decide_eq_true rfl)) 10))))
     have z79 : (σ63 55 12).toInt = (σ 55 12).toInt := (congrArg Int32.toInt (show σ63 55 12 = (σ 55 12) from ((f66 12 (of_decide_eq_true rfl)).trans (congrFun (f50 55 (of_decide_eq_true rfl)) 12))))
     have z80 : (σ63 55 13).toInt = (σ 55 13).toInt := (congrArg Int32.toInt (show σ63 55 13 = (σ 55 13) from ((f66 13 (of_decide_eq_true rfl)).trans (congrFun (f50 55 (of_decide_eq_true rfl)) 13))))
     refine lv_pop hx hb dL_law_736 rfl ?_
     refine lv_goto (tgt := 1357) hx hb dL_law_737 (of_decide_eq_true rfl) ?_
     obtain ⟨x81, ex81⟩ : ∃ y : Int32, y = x0 + 6 := ⟨_, rfl⟩
     exact by
      have tx81 : x81.toInt = x0.toInt + 6 := (jadd ex81 rfl jz_6 (by omega) (by omega)).trans (by omega)
      refine lv_iinc (v := x81) (lv' := [(3, .int x81), (2, .ref (ad 55)), (1, .ref (ad 0)), (0, .ref b)]) hx hb dL_law_1357 hl (k := 0) rfl (by rw [ex81]; rfl) (of_decide_eq_true rfl) rfl (fun ls hl => ?_)
      refine lv_goto (tgt := 18) hx hb dL_law_1360 (of_decide_eq_true rfl) ?_
      have I82 : jI2 σ63 := jI2_fr ((congrFun (f65 2 (of_decide_eq_true rfl)) 0).trans (congrFun (f50 2 (of_decide_eq_true rfl)) 0)) ((congrFun (f65 2 (of_decide_eq_true rfl)) 1).trans (congrFun (f50 2 (of_decide_eq_true rfl)) 1)) ((congrFun (f65 2 (of_decide_eq_true rfl)) 2).trans (congrFun (f50 2 (of_decide_eq_true rfl)) 2)) ((congrFun (f65 2 (of_decide_eq_true rfl)) 3).trans (congrFun (f50 2 (of_decide_eq_true rfl)) 3)) ((f65 6 (of_decide_eq_true rfl)).trans (f50 6 (of_decide_eq_true rfl))) hI2
      have I83 : jI9 σ63 := jI9_fr ((congrFun (f65 9 (of_decide_eq_true rfl)) 0).trans (congrFun (f50 9 (of_decide_eq_true rfl)) 0)) ((f65 10 (of_decide_eq_true rfl)).trans (f50 10 (of_decide_eq_true rfl))) ((f65 11 (of_decide_eq_true rfl)).trans (f50 11 (of_decide_eq_true rfl))) hI9
      have I84 : jI12 σ63 := jI12_fr ((congrFun (f65 12 (of_decide_eq_true rfl)) 0).trans (congrFun (f50 12 (of_decide_eq_true rfl)) 0)) ((f65 13 (of_decide_eq_true rfl)).trans (f50 13 (of_decide_eq_true rfl))) hI12
      have I85 : jI16 σ63 := jI16_fr ((congrFun (f65 16 (of_decide_eq_true rfl)) 0).trans (congrFun (f50 16 (of_decide_eq_true rfl)) 0)) ((congrFun (f65 16 (of_decide_eq_true rfl)) 1).trans (congrFun (f50 16 (of_decide_eq_true rfl)) 1)) ((congrFun (f65 16 (of_decide_eq_true rfl)) 2).trans (congrFun (f50 16 (of_decide_eq_true rfl)) 2)) ((f65 17 (of_decide_eq_true rfl)).trans (f50 17 (of_decide_eq_true rfl))) hI16
      have I86 : jI18 σ63 := jI18_fr ((congrFun (f65 18 (of_decide_eq_true rfl)) 0).trans (congrFun (f50 18 (of_decide_eq_true rfl)) 0)) ((f65 19 (of_decide_eq_true rfl)).trans (f50 19 (of_decide_eq_true rfl))) hI18
      have I87 : jI22 σ63 := jI22_fr ((congrFun (f65 22 (of_decide_eq_true rfl)) 0).trans (congrFun (f50 22 (of_decide_eq_true rfl)) 0)) ((f65 23 (of_decide_eq_true rfl)).trans (f50 23 (of_decide_eq_true rfl))) hI22
      exact by
       have I88 : jI31 σ63 := jI31_fr (congrFun (f65 31 (of_decide_eq_true rfl)) 8) (f65 33 (of_decide_eq_true rfl)) (f65 36 (of_decide_eq_true rfl)) I52
       have I89 : jI38 σ63 := jI38_fr ((congrFun (f65 38 (of_decide_eq_true rfl)) 0).trans (congrFun (f50 38 (of_decide_eq_true rfl)) 0)) ((congrFun (f65 38 (of_decide_eq_true rfl)) 1).trans (congrFun (f50 38 (of_decide_eq_true rfl)) 1)) ((f65 39 (of_decide_eq_true rfl)).trans (f50 39 (of_decide_eq_true rfl))) hI38
       have I90 : jI43 σ63 := jI43_fr ((congrFun (f65 43 (of_decide_eq_true rfl)) 8).trans (congrFun (f50 43 (of_decide_eq_true rfl)) 8)) hI43
       have I91 : jI47 σ63 := jI47_fr ((congrFun (f65 47 (of_decide_eq_true rfl)) 0).trans (congrFun (f50 47 (of_decide_eq_true rfl)) 0)) ((f65 48 (of_decide_eq_true rfl)).trans (f50 48 (of_decide_eq_true rfl))) ((f65 49 (of_decide_eq_true rfl)).trans (f50 49 (of_decide_eq_true rfl))) hI47
       have I92 : jI50 σ63 := jI50_fr ((f65 52 (of_decide_eq_true rfl)).trans (f50 52 (of_decide_eq_true rfl))) hI50
       have I93 : jI101 σ63 := jI101_fr (f66 4 (of_decide_eq_true rfl)) (f66 5 (of_decide_eq_true rfl)) (f65 56 (of_decide_eq_true rfl)) (f65 57 (of_decide_eq_true rfl)) (f65 58 (of_decide_eq_true rfl)) (f65 59 (of_decide_eq_true rfl)) I54
       have I94 : jI102 σ63 := jI102_fr (f66 6 (of_decide_eq_true rfl)) (f65 60 (of_decide_eq_true rfl)) (f65 61 (of_decide_eq_true rfl)) I55
       have I95 : jI103 σ63 := jI103_fr (f66 9 (of_decide_eq_true rfl)) I56
       have I96 : jI105 σ63 := jI105_fr (f66 15 (of_decide_eq_true rfl)) (f65 65 (of_decide_eq_true rfl)) I58
       have I97 : jI106 σ63 := jI106_fr (f66 32 (of_decide_eq_true rfl)) (f65 70 (of_decide_eq_true rfl)) (f65 71 (of_decide_eq_true rfl)) (f65 72 (of_decide_eq_true rfl)) I59
       have I98 : jI107 σ63 := jI107_fr ((f66 12 (of_decide_eq_true rfl)).trans (congrFun (f50 55 (of_decide_eq_true rfl)) 12)) ((f66 47 (of_decide_eq_true rfl)).trans (congrFun (f50 55 (of_decide_eq_true rfl)) 47)) ((f65 80 (of_decide_eq_true rfl)).trans (f50 80 (of_decide_eq_true rfl))) hI107
       have I99 : jI109 σ63 := jI109_fr ((f66 50 (of_decide_eq_true rfl)).trans (congrFun (f50 55 (of_decide_eq_true rfl)) 50)) hI109
       have I100 : jI110 σ63 := jI110_fr ((f65 86 (of_decide_eq_true rfl)).trans (f50 86 (of_decide_eq_true rfl))) ((f65 87 (of_decide_eq_true rfl)).trans (f50 87 (of_decide_eq_true rfl))) hI110
       have p101 : jBook σ63 := jBook.fr ((f66 47 (of_decide_eq_true rfl)).trans (congrFun (f50 55 (of_decide_eq_true rfl)) 47)) ((f66 10 (of_decide_eq_true rfl)).trans (congrFun (f50 55 (of_decide_eq_true rfl)) 10)) ((f65 81 (of_decide_eq_true rfl)).trans (f50 81 (of_decide_eq_true rfl))) hs_jBook
       have z102 : (σ63 2 0).toInt = (σ 2 0).toInt := (congrArg Int32.toInt (show σ63 2 0 = (σ 2 0) from ((congrFun (f65 2 (of_decide_eq_true rfl)) 0).trans (congrFun (f50 2 (of_decide_eq_true rfl)) 0))))
       have z103 : (σ63 55 6).toInt = (σ 55 6).toInt := (congrArg Int32.toInt (show σ63 55 6 = (σ 55 6) from ((f66 6 (of_decide_eq_true rfl)).trans (congrFun (f50 55 (of_decide_eq_true rfl)) 6))))
       have z104 : (σ63 2 2).toInt = (σ 2 2).toInt := (congrArg Int32.toInt (show σ63 2 2 = (σ 2 2) from ((congrFun (f65 2 (of_decide_eq_true rfl)) 2).trans (congrFun (f50 2 (of_decide_eq_true rfl)) 2))))
       have z105 : (σ63 55 5).toInt = (σ 55 5).toInt := (congrArg Int32.toInt (show σ63 55 5 = (σ 55 5) from ((f66 5 (of_decide_eq_true rfl)).trans (congrFun (f50 55 (of_decide_eq_true rfl)) 5))))
       have z106 : (σ63 2 3).toInt = (σ 2 3).toInt := (congrArg Int32.toInt (show σ63 2 3 = (σ 2 3) from ((congrFun (f65 2 (of_decide_eq_true rfl)) 3).trans (congrFun (f50 2 (of_decide_eq_true rfl)) 3))))
       have z107 : (σ63 55 4).toInt = (σ 55 4).toInt := (congrArg Int32.toInt (show σ63 55 4 = (σ 55 4) from ((f66 4 (of_decide_eq_true rfl)).trans (congrFun (f50 55 (of_decide_eq_true rfl)) 4))))
       have z108 : (σ63 9 0).toInt = (σ 9 0).toInt := (congrArg Int32.toInt (show σ63 9 0 = (σ 9 0) from ((congrFun (f65 9 (of_decide_eq_true rfl)) 0).trans (congrFun (f50 9 (of_decide_eq_true rfl)) 0))))
       have z109 : (σ63 55 15).toInt = (σ 55 15).toInt := (congrArg Int32.toInt (show σ63 55 15 = (σ 55 15) from ((f66 15 (of_decide_eq_true rfl)).trans (congrFun (f50 55 (of_decide_eq_true rfl)) 15))))
       have z110 : (σ63 16 0).toInt = (σ 16 0).toInt := (congrArg Int32.toInt (show σ63 16 0 = (σ 16 0) from ((congrFun (f65 16 (of_decide_eq_true rfl)) 0).trans (congrFun (f50 16 (of_decide_eq_true rfl)) 0))))
       have z111 : (σ63 16 1).toInt = (σ 16 1).toInt := (congrArg Int32.toInt (show σ63 16 1 = (σ 16 1) from ((congrFun (f65 16 (of_decide_eq_true rfl)) 1).trans (congrFun (f50 16 (of_decide_eq_true rfl)) 1))))
       have z112 : (σ63 16 2).toInt = (σ 16 2).toInt := (congrArg Int32.toInt (show σ63 16 2 = (σ 16 2) from ((congrFun (f65 16 (of_decide_eq_true rfl)) 2).trans (congrFun (f50 16 (of_decide_eq_true rfl)) 2))))
       have z113 : (σ63 38 0).toInt = (σ 38 0).toInt := (congrArg Int32.toInt (show σ63 38 0 = (σ 38 0) from ((congrFun (f65 38 (of_decide_eq_true rfl)) 0).trans (congrFun (f50 38 (of_decide_eq_true rfl)) 0))))
       have z114 : (σ63 55 32).toInt = (σ 55 32).toInt := (congrArg Int32.toInt (show σ63 55 32 = (σ 55 32) from ((f66 32 (of_decide_eq_true rfl)).trans (congrFun (f50 55 (of_decide_eq_true rfl)) 32))))
       have z115 : (σ63 38 1).toInt = (σ 38 1).toInt := (congrArg Int32.toInt (show σ63 38 1 = (σ 38 1) from ((congrFun (f65 38 (of_decide_eq_true rfl)) 1).trans (congrFun (f50 38 (of_decide_eq_true rfl)) 1))))
       have z116 : (σ63 55 55).toInt = (σ 55 55).toInt := (congrArg Int32.toInt (show σ63 55 55 = (σ 55 55) from ((f66 55 (of_decide_eq_true rfl)).trans (congrFun (f50 55 (of_decide_eq_true rfl)) 55))))
       have z117 : (σ63 47 0).toInt = (σ 47 0).toInt := (congrArg Int32.toInt (show σ63 47 0 = (σ 47 0) from ((congrFun (f65 47 (of_decide_eq_true rfl)) 0).trans (congrFun (f50 47 (of_decide_eq_true rfl)) 0))))
       have z118 : (σ63 55 47).toInt = (σ 55 47).toInt := (congrArg Int32.toInt (show σ63 55 47 = (σ 55 47) from ((f66 47 (of_decide_eq_true rfl)).trans (congrFun (f50 55 (of_decide_eq_true rfl)) 47))))
       have z119 : (σ63 55 30).toInt = (σ 55 30).toInt := (congrArg Int32.toInt (show σ63 55 30 = (σ 55 30) from ((f66 30 (of_decide_eq_true rfl)).trans (congrFun (f50 55 (of_decide_eq_true rfl)) 30))))
       have z120 : (σ63 55 31).toInt = (σ 55 31).toInt := (congrArg Int32.toInt (show σ63 55 31 = (σ 55 31) from ((f66 31 (of_decide_eq_true rfl)).trans (congrFun (f50 55 (of_decide_eq_true rfl)) 31))))
       have z121 : (σ48 55 10).toInt = (σ 55 10).toInt := (congrArg Int32.toInt (show σ48 55 10 = (σ 55 10) from (congrFun (f50 55 (of_decide_eq_true rfl)) 10)))
       rw [show σ48 62 = σ 62 from (f50 62 (of_decide_eq_true rfl))] at w71
       exact by exact ih x81 σ63 τ _ _ ls (by have h9 := tx81; omega) ⟨I82, I83, I84, I85, I86, I87, I88, I89, I90, I91, I92, I93, I94, I95, I67, I96, I97, I98, I99, I100, I68, I69, p70, p101, (by omega), (by omega), (by omega), (by omega), (by omega), (by omega), (by omega), (by omega), (by omega), (by omega), (by omega), (by omega), (show jNumP (σ63 3) (σ63 56) (σ63 6) (σ63 57) (σ63 7) (σ63 58) (σ63 8) (σ63 59) (σ63 55 6).toInt (σ63 55 4).toInt by rw [show σ63 3 = σ 3 from ((f65 3 (of_decide_eq_true rfl)).trans (f50 3 (of_decide_eq_true rfl))), show σ63 56 = σ 56 from ((f65 56 (of_decide_eq_true rfl)).trans (f50 56 (of_decide_eq_true rfl))), show σ63 6 = σ 6 from ((f65 6 (of_decide_eq_true rfl)).trans (f50 6 (of_decide_eq_true rfl))), show σ63 57 = σ 57 from ((f65 57 (of_decide_eq_true rfl)).trans (f50 57 (of_decide_eq_true rfl))), show σ63 7 = σ 7 from ((f65 7 (of_decide_eq_true rfl)).trans (f50 7 (of_decide_eq_true rfl))), show σ63 58 = σ 58 from ((f65 58 (of_decide_eq_true rfl)).trans (f50 58 (of_decide_eq_true rfl))), show σ63 8 = σ 8 from ((f65 8 (of_decide_eq_true rfl)).trans (f50 8 (of_decide_eq_true rfl))), show σ63 59 = σ 59 from ((f65 59 (of_decide_eq_true rfl)).trans (f50 59 (of_decide_eq_true rfl))), show (σ63 55 6).toInt = (σ 55 6).toInt from by omega, show (σ63 55 4).toInt = (σ 55 4).toInt from by omega]; exact hr0), (show jOvP (σ63 56) (σ63 57) (σ63 58) (σ63 59) (σ63 55 4).toInt by rw [show σ63 56 = σ 56 from ((f65 56 (of_decide_eq_true rfl)).trans (f50 56 (of_decide_eq_true rfl))), show σ63 57 = σ 57 from ((f65 57 (of_decide_eq_true rfl)).trans (f50 57 (of_decide_eq_true rfl))), show σ63 58 = σ 58 from ((f65 58 (of_decide_eq_true rfl)).trans (f50 58 (of_decide_eq_true rfl))), show σ63 59 = σ 59 from ((f65 59 (of_decide_eq_true rfl)).trans (f50 59 (of_decide_eq_true rfl))), show (σ63 55 4).toInt = (σ 55 4).toInt from by omega]; exact hr1), (show jTp (σ63 10) (σ63 63) (σ63 55 15).toInt by rw [show σ63 10 = σ 10 from ((f65 10 (of_decide_eq_true rfl)).trans (f50 10 (of_decide_eq_true rfl))), show σ63 63 = σ 63 from ((f65 63 (of_decide_eq_true rfl)).trans (f50 63 (of_decide_eq_true rfl)))]; exact hr2.le (by omega)), (show jSo (σ63 17) (σ63 62) (σ63 16 0).toInt by rw [show σ63 17 = σ 17 from ((f65 17 (of_decide_eq_true rfl)).trans (f50 17 (of_decide_eq_true rfl))), show (σ63 16 0).toInt = (σ 16 0).toInt from by omega]; exact hr3.thru w71 (by omega)), (show jShP (σ63 51) (σ63 52) (σ63 53) (σ63 86) (σ63 87) (σ63 55 32).toInt by rw [show σ63 51 = σ 51 from ((f65 51 (of_decide_eq_true rfl)).trans (f50 51 (of_decide_eq_true rfl))), show σ63 52 = σ 52 from ((f65 52 (of_decide_eq_true rfl)).trans (f50 52 (of_decide_eq_true rfl))), show σ63 53 = σ 53 from ((f65 53 (of_decide_eq_true rfl)).trans (f50 53 (of_decide_eq_true rfl))), show σ63 86 = σ 86 from ((f65 86 (of_decide_eq_true rfl)).trans (f50 86 (of_decide_eq_true rfl))), show σ63 87 = σ 87 from ((f65 87 (of_decide_eq_true rfl)).trans (f50 87 (of_decide_eq_true rfl)))]; exact (hr4.up (by omega) (by omega))), (show jEl (σ63 51) (σ63 52) (τ 54) (τ 88) by rw [show σ63 51 = σ 51 from ((f65 51 (of_decide_eq_true rfl)).trans (f50 51 (of_decide_eq_true rfl))), show σ63 52 = σ 52 from ((f65 52 (of_decide_eq_true rfl)).trans (f50 52 (of_decide_eq_true rfl)))]; exact hr5), (show jByP (σ63 51) (σ63 52) (τ 54) by rw [show σ63 51 = σ 51 from ((f65 51 (of_decide_eq_true rfl)).trans (f50 51 (of_decide_eq_true rfl))), show σ63 52 = σ 52 from ((f65 52 (of_decide_eq_true rfl)).trans (f50 52 (of_decide_eq_true rfl)))]; exact hr6), (show jBk (σ63 48) (σ63 80) (σ63 49) (σ63 81) (σ63 55 47).toInt by rw [show σ63 48 = σ 48 from ((f65 48 (of_decide_eq_true rfl)).trans (f50 48 (of_decide_eq_true rfl))), show σ63 49 = σ 49 from ((f65 49 (of_decide_eq_true rfl)).trans (f50 49 (of_decide_eq_true rfl))), show σ63 80 = σ 80 from ((f65 80 (of_decide_eq_true rfl)).trans (f50 80 (of_decide_eq_true rfl))), show σ63 81 = σ 81 from ((f65 81 (of_decide_eq_true rfl)).trans (f50 81 (of_decide_eq_true rfl))), show (σ63 55 47).toInt = (σ 55 47).toInt from by omega]; exact hr7), (show jKd (σ63 39) (σ63 70) (σ63 55 32).toInt by rw [show σ63 39 = σ 39 from ((f65 39 (of_decide_eq_true rfl)).trans (f50 39 (of_decide_eq_true rfl))), show σ63 70 = σ 70 from ((f65 70 (of_decide_eq_true rfl)).trans (f50 70 (of_decide_eq_true rfl))), show (σ63 55 32).toInt = (σ 55 32).toInt from by omega]; exact hr8), (show jTt (σ63 42) (σ63 85) (σ63 55 55).toInt by rw [show σ63 42 = σ 42 from ((f65 42 (of_decide_eq_true rfl)).trans (f50 42 (of_decide_eq_true rfl))), show σ63 85 = σ 85 from ((f65 85 (of_decide_eq_true rfl)).trans (f50 85 (of_decide_eq_true rfl))), show (σ63 55 55).toInt = (σ 55 55).toInt from by omega]; exact hr9)⟩ hP hS (lv_sub hl [0, 1, 2, 3] rfl)
set_option maxHeartbeats 4000000 in
set_option maxRecDepth 100000 in
theorem law_case_18 {p : Program} {e : Env} {s : State} {m : MethodId} {below : List Frame} {meth : Method} {c : Code} (l : Launch) {b L : Nat} {xs : Nat → Int32} {D : va_G} {cI cL : ClassId} {ad zz : Nat → Nat} (C0 : lw_At p s m meth c b L xs) (hJ : jD ad) (hA : ∀ q, jA ad q → s.heap.size ≤ q) (hK : jK D cI cL s) (hZ : jZ zz (fun q : Nat => s.heap.size ≤ q) s s.heap) {x0 : Int32} (hx0 : 0 ≤ x0.toInt) (hxL : x0.toInt + 6 ≤ (L : Int)) (hL : L ≤ 384) {σ : Nat → Nat → Int32} {τ : Nat → Nat → Int64} {H : Heap} {locs : List Loc} (hS : va_S (fun q : Nat => s.heap.size ≤ q) s.heap H locs) {ls : Array Slot} (hAll : jAll σ τ) (hP : jH D cI cL ad σ τ H) (hl : lv_has ls 4 [(3, .int x0), (2, .ref (ad 55)), (1, .ref (ad 0)), (0, .ref b)]) (ih : ∀ (x1 : Int32) (σ : Nat → Nat → Int32) (τ : Nat → Nat → Int64) (H : Heap) (locs : List Loc) (ls : Array Slot), x1.toInt = x0.toInt + 6 → jAll σ τ → jH D cI cL ad σ τ H → va_S (fun q : Nat => s.heap.size ≤ q) s.heap H locs → lv_has ls 4 [(3, .int x1), (2, .ref (ad 55)), (1, .ref (ad 0)), (0, .ref b)] → W p l e room_1 s m #[Value.ref b] below meth c H locs 90 348600 (lw_Z below #[Value.ref b] s) (F0 m 18 ls [])) : W p l e room_1 s m #[Value.ref b] below meth c H locs 90 348600 (lw_Z below #[Value.ref b] s) (F0 m 740 ls []) := by
  obtain ⟨hx, hb, hr, hml, hown, hts0, hX, hbl, hlocks, hgv⟩ := C0
  have hts : ∀ w ∈ wsL_law, w.before #[Value.ref b] s = true := fun w h => hts0 w (wsL_law_in w h)
  have hbA : ¬ (fun q : Nat => s.heap.size ≤ q) b := Nat.not_le.mpr hbl
  have hown : s.vm.findClass RL = some m.cls := hown
  obtain ⟨hI2, hI9, hI12, hI16, hI18, hI22, hI31, hI38, hI43, hI47, hI50, hI101, hI102, hI103, hI104, hI105, hI106, hI107, hI109, hI110, hI111, hI119, hs_jKept, hs_jBook, ht0, ht1, ht2, ht3, ht4, ht5, ht6, ht7, ht8, ht9, ht10, ht11, hr0, hr1, hr2, hr3, hr4, hr5, hr6, hr7, hr8, hr9⟩ := hAll
  have hL9 : (L : Int) ≤ 384 := by omega
  obtain ⟨i1, i2, i3, i4, i5, w6⟩ : (0 ≤ (σ 2 0).toInt ∧ (σ 2 0).toInt ≤ 4) ∧ (0 ≤ (σ 2 1).toInt ∧ (σ 2 1).toInt ≤ 3) ∧ (0 ≤ (σ 2 2).toInt) ∧ (0 ≤ (σ 2 3).toInt) ∧ ((σ 2 2).toInt + (σ 2 3).toInt ≤ 40) ∧ (∀ k : Nat, k < 40 → 0 ≤ (σ 6 k).toInt ∧ (σ 6 k).toInt ≤ 67) := id hI2
  obtain ⟨i7, w8, w9⟩ : (0 ≤ (σ 9 0).toInt ∧ (σ 9 0).toInt ≤ 80) ∧ (∀ k : Nat, k < 80 → 0 ≤ (σ 10 k).toInt ∧ (σ 10 k).toInt ≤ 255) ∧ (∀ k : Nat, k < 8 → 0 ≤ (σ 11 k).toInt ∧ (σ 11 k).toInt ≤ 3) := id hI9
  obtain ⟨i10, i11, i12, w13⟩ : (1 ≤ (σ 16 0).toInt ∧ (σ 16 0).toInt ≤ 8) ∧ (1 ≤ (σ 16 1).toInt ∧ (σ 16 1).toInt ≤ 12) ∧ (0 ≤ (σ 16 2).toInt ∧ (σ 16 2).toInt ≤ 999) ∧ (∀ k : Nat, k < 8 → 0 ≤ (σ 17 k).toInt ∧ (σ 17 k).toInt ≤ 3) := id hI16
  obtain ⟨i14, i15, w16⟩ : (0 ≤ (σ 38 0).toInt ∧ (σ 38 0).toInt ≤ 20) ∧ (0 ≤ (σ 38 1).toInt ∧ (σ 38 1).toInt ≤ 1000) ∧ (∀ k : Nat, k < 20 → 0 ≤ (σ 39 k).toInt ∧ (σ 39 k).toInt ≤ 6) := id hI38
  obtain ⟨i17, w18, w19⟩ : (0 ≤ (σ 47 0).toInt ∧ (σ 47 0).toInt ≤ 12) ∧ (∀ k : Nat, k < 12 → 0 ≤ (σ 48 k).toInt ∧ (σ 48 k).toInt ≤ 3) ∧ (∀ k : Nat, k < 12 → 0 ≤ (σ 49 k).toInt ∧ (σ 49 k).toInt ≤ 1) := id hI47
  have w20 : ∀ k : Nat, k < 6 → 0 ≤ (σ 52 k).toInt ∧ (σ 52 k).toInt ≤ 60 := hI50
  obtain ⟨i21, i22, i23, w24, w25, w26, w27⟩ : (0 ≤ (σ 55 5).toInt) ∧ ((σ 55 5).toInt ≤ (σ 55 4).toInt) ∧ ((σ 55 4).toInt ≤ 40) ∧ (∀ k : Nat, k < 68 → (-200) ≤ (σ 56 k).toInt ∧ (σ 56 k).toInt ≤ 500) ∧ (∀ k : Nat, k < 40 → 0 ≤ (σ 57 k).toInt ∧ (σ 57 k).toInt ≤ 67) ∧ (∀ k : Nat, k < 40 → (-200) ≤ (σ 58 k).toInt ∧ (σ 58 k).toInt ≤ 500) ∧ (∀ k : Nat, k < 40 → (-200) ≤ (σ 59 k).toInt ∧ (σ 59 k).toInt ≤ 500) := id hI101
  obtain ⟨i28, w29, w30⟩ : (0 ≤ (σ 55 6).toInt ∧ (σ 55 6).toInt ≤ 4) ∧ (∀ k : Nat, k < 4 → 0 ≤ (σ 60 k).toInt ∧ (σ 60 k).toInt ≤ 50) ∧ (∀ k : Nat, k < 4 → 0 ≤ (σ 61 k).toInt ∧ (σ 61 k).toInt ≤ 20) := id hI102
  obtain ⟨i31, i32, i33, w34, w35⟩ : (1 ≤ (σ 55 10).toInt ∧ (σ 55 10).toInt ≤ 8) ∧ (1 ≤ (σ 55 12).toInt ∧ (σ 55 12).toInt ≤ 12) ∧ (0 ≤ (σ 55 13).toInt ∧ (σ 55 13).toInt ≤ 999) ∧ (∀ k : Nat, k < 8 → 0 ≤ (σ 62 k).toInt ∧ (σ 62 k).toInt ≤ 3) ∧ (∀ k : Nat, k < 8 → 0 ≤ (σ 67 k).toInt ∧ (σ 67 k).toInt ≤ 3) := id hI104
  obtain ⟨i36, w37⟩ : (0 ≤ (σ 55 15).toInt ∧ (σ 55 15).toInt ≤ 80) ∧ (∀ k : Nat, k < 2 → (-1) ≤ (σ 65 k).toInt ∧ (σ 65 k).toInt ≤ 80) := id hI105
  obtain ⟨i38, w39, w40, w41⟩ : (0 ≤ (σ 55 32).toInt ∧ (σ 55 32).toInt ≤ 20) ∧ (∀ k : Nat, k < 20 → 0 ≤ (σ 70 k).toInt ∧ (σ 70 k).toInt ≤ 6) ∧ (∀ k : Nat, k < 20 → 0 ≤ (σ 71 k).toInt ∧ (σ 71 k).toInt ≤ 8) ∧ (∀ k : Nat, k < 160 → 0 ≤ (σ 72 k).toInt ∧ (σ 72 k).toInt ≤ 3) := id hI106
  obtain ⟨i42, i43, w44⟩ : (0 ≤ (σ 55 47).toInt ∧ (σ 55 47).toInt ≤ 12) ∧ ((σ 55 47).toInt ≤ (σ 55 12).toInt) ∧ (∀ k : Nat, k < 12 → 0 ≤ (σ 80 k).toInt ∧ (σ 80 k).toInt ≤ 3) := id hI107
  refine lv_aload_n hx hb dL_law_740 rfl (lv_at hl 2 rfl) ?_
  refine lv_aload_n hx hb dL_law_741 rfl (lv_at hl 3 rfl) ?_
  refine lv_iload_n hx hb dL_law_742 rfl (lv_at hl 0 rfl) ?_
  refine lv_iconst (v := 1) hx hb dL_law_743 (of_decide_eq_true rfl) ?_
  have g45 := jrg (rfl : x0.toInt = x0.toInt)
  refine lv_iadd hx hb dL_law_744 ?_
  refine lv_topi (fun x46 ex46 => ?_)
  exact by
   have tx46 : x46.toInt = x0.toInt + 1 := (jadd ex46 rfl jz_1 (by omega) (by omega)).trans (by omega)
   refine va_sld hx hb hX hbl hbA hS (jin tx46 (by omega) (by omega)) dL_law_745 ?_
   have g47 := jrg (rfl : (xs x46.toNatClampNeg).toInt = (xs x46.toNatClampNeg).toInt)
   refine lv_aload_n hx hb dL_law_746 rfl (lv_at hl 3 rfl) ?_
   refine lv_iload_n hx hb dL_law_747 rfl (lv_at hl 0 rfl) ?_
   refine lv_iconst (v := 2) hx hb dL_law_748 (of_decide_eq_true rfl) ?_
   refine lv_iadd hx hb dL_law_749 ?_
   refine lv_topi (fun x48 ex48 => ?_)
   have tx48 : x48.toInt = x0.toInt + 2 := (jadd ex48 rfl jz_2 (by omega) (by omega)).trans (by omega)
   exact by
    refine va_sld hx hb hX hbl hbA hS (jin tx48 (by omega) (by omega)) dL_law_750 ?_
    have g49 := jrg (rfl : (xs x48.toNatClampNeg).toInt = (xs x48.toNatClampNeg).toInt)
    refine jcallV (As := [.int (xs x46.toNatClampNeg), .int (xs x48.toNatClampNeg)]) (rest := []) ⟨hx, hb, hml, hown, hts⟩ hK hP hA hS hZ (c_X11_learn l D cI cL ad zz hJ σ τ (xs x46.toNatClampNeg) ((xs x46.toNatClampNeg).toInt) rfl (xs x48.toNatClampNeg) ((xs x48.toNatClampNeg).toInt) rfl hI2) cw_RL_89 (jc_0 cI cL ad σ τ) rfl ⟨Nat.le_of_ble_eq_true rfl, Nat.le_of_ble_eq_true rfl⟩ rfl rfl rfl hl.1 rfl (Nat.le_of_ble_eq_true rfl) dL_law_751 ⟨Nat.le_of_ble_eq_true rfl, Nat.le_of_ble_eq_true rfl⟩ (fun r51 σ50 τ50 H locs h50 hP hS => ?_)
    obtain ⟨rfl, f52, f53, I54, h50⟩ := h50
    obtain ⟨i56, i57, i58, i59, i60, w61⟩ : (0 ≤ (σ50 2 0).toInt ∧ (σ50 2 0).toInt ≤ 4) ∧ (0 ≤ (σ50 2 1).toInt ∧ (σ50 2 1).toInt ≤ 3) ∧ (0 ≤ (σ50 2 2).toInt) ∧ (0 ≤ (σ50 2 3).toInt) ∧ ((σ50 2 2).toInt + (σ50 2 3).toInt ≤ 40) ∧ (∀ k : Nat, k < 40 → 0 ≤ (σ50 6 k).toInt ∧ (σ50 6 k).toInt ≤ 67) := id I54
    have z62 : (σ50 2 0).toInt = (σ 2 0).toInt := (congrArg Int32.toInt (show σ50 2 0 = (σ 2 0) from (f53 0 (of_decide_eq_true rfl))))
    have z63 : (σ50 2 1).toInt = (σ 2 1).toInt := (congrArg Int32.toInt (show σ50 2 1 = (σ 2 1) from (f53 1 (of_decide_eq_true rfl))))
    rcases h50 with h64 | h65
    · obtain ⟨q70, k66, k67, k68, k69⟩ := h64
      have q70 := q70.symm
      subst q70
      refine lv_pop hx hb dL_law_754 rfl ?_
      refine lv_aload_n hx hb dL_law_755 rfl (lv_at hl 1 rfl) ?_
      refine lv_aload_n hx hb dL_law_756 rfl (lv_at hl 3 rfl) ?_
      refine lv_iload_n hx hb dL_law_757 rfl (lv_at hl 0 rfl) ?_
      refine lv_iconst (v := 1) hx hb dL_law_758 (of_decide_eq_true rfl) ?_
      refine lv_iadd hx hb dL_law_759 ?_
      refine jtopr ex46.symm ?_
      exact by
       refine va_sld hx hb hX hbl hbA hS (jin tx46 (by omega) (by omega)) dL_law_760 ?_
       refine lv_aload_n hx hb dL_law_761 rfl (lv_at hl 3 rfl) ?_
       refine lv_iload_n hx hb dL_law_762 rfl (lv_at hl 0 rfl) ?_
       refine lv_iconst (v := 2) hx hb dL_law_763 (of_decide_eq_true rfl) ?_
       refine lv_iadd hx hb dL_law_764 ?_
       refine jtopr ex48.symm ?_
       refine va_sld hx hb hX hbl hbA hS (jin tx48 (by omega) (by omega)) dL_law_765 ?_
       have I71 : jI101 σ50 := jI101_fr (congrFun (f52 55 (of_decide_eq_true rfl)) 4) (congrFun (f52 55 (of_decide_eq_true rfl)) 5) (f52 56 (of_decide_eq_true rfl)) (f52 57 (of_decide_eq_true rfl)) (f52 58 (of_decide_eq_true rfl)) (f52 59 (of_decide_eq_true rfl)) hI101
       have I72 : jI102 σ50 := jI102_fr (congrFun (f52 55 (of_decide_eq_true rfl)) 6) (f52 60 (of_decide_eq_true rfl)) (f52 61 (of_decide_eq_true rfl)) hI102
       exact by
        have z73 : (σ50 55 6).toInt = (σ 55 6).toInt := (congrArg Int32.toInt (show σ50 55 6 = (σ 55 6) from (congrFun (f52 55 (of_decide_eq_true rfl)) 6)))
        have z74 : (σ50 55 5).toInt = (σ 55 5).toInt := (congrArg Int32.toInt (show σ50 55 5 = (σ 55 5) from (congrFun (f52 55 (of_decide_eq_true rfl)) 5)))
        have z75 : (σ50 55 4).toInt = (σ 55 4).toInt := (congrArg Int32.toInt (show σ50 55 4 = (σ 55 4) from (congrFun (f52 55 (of_decide_eq_true rfl)) 4)))
        refine jcallV (As := [.int (xs x46.toNatClampNeg), .int (xs x48.toNatClampNeg)]) (rest := []) ⟨hx, hb, hml, hown, hts⟩ hK hP hA hS hZ (c_X12_learn l D cI cL ad zz hJ σ50 τ (xs x46.toNatClampNeg) ((xs x46.toNatClampNeg).toInt) rfl (xs x48.toNatClampNeg) ((xs x48.toNatClampNeg).toInt) rfl I71 I72) cw_RL_92 (jc_55 cI cL ad σ50 τ) rfl ⟨Nat.le_of_ble_eq_true rfl, Nat.le_of_ble_eq_true rfl⟩ rfl rfl rfl hl.1 rfl (Nat.le_of_ble_eq_true rfl) dL_law_766 ⟨Nat.le_of_ble_eq_true rfl, Nat.le_of_ble_eq_true rfl⟩ (fun r77 σ76 τ76 H locs h76 hP hS => ?_)
        obtain ⟨rfl, f78, f79, I80, h76⟩ := h76
        obtain ⟨i82, i83, i84, w85, w86, w87, w88⟩ : (0 ≤ (σ76 55 5).toInt) ∧ ((σ76 55 5).toInt ≤ (σ76 55 4).toInt) ∧ ((σ76 55 4).toInt ≤ 40) ∧ (∀ k : Nat, k < 68 → (-200) ≤ (σ76 56 k).toInt ∧ (σ76 56 k).toInt ≤ 500) ∧ (∀ k : Nat, k < 40 → 0 ≤ (σ76 57 k).toInt ∧ (σ76 57 k).toInt ≤ 67) ∧ (∀ k : Nat, k < 40 → (-200) ≤ (σ76 58 k).toInt ∧ (σ76 58 k).toInt ≤ 500) ∧ (∀ k : Nat, k < 40 → (-200) ≤ (σ76 59 k).toInt ∧ (σ76 59 k).toInt ≤ 500) := id I80
        rcases h76 with h89 | h90
        · obtain ⟨q95, k91, k92, k93, k94⟩ := h89
          have q95 := q95.symm
          subst q95
          refine lv_pop hx hb dL_law_769 rfl ?_
          refine lv_goto (tgt := 1357) hx hb dL_law_770 (of_decide_eq_true rfl) ?_
          obtain ⟨x96, ex96⟩ : ∃ y : Int32, y = x0 + 6 := ⟨_, rfl⟩
          exact by
           have tx96 : x96.toInt = x0.toInt + 6 := (jadd ex96 rfl jz_6 (by omega) (by omega)).trans (by omega)
           refine lv_iinc (v := x96) (lv' := [(3, .int x96), (2, .ref (ad 55)), (1, .ref (ad 0)), (0, .ref b)]) hx hb dL_law_1357 hl (k := 0) rfl (by rw [ex96]; rfl) (of_decide_eq_true rfl) rfl (fun ls hl => ?_)
           refine lv_goto (tgt := 18) hx hb dL_law_1360 (of_decide_eq_true rfl) ?_
           have I97 : jI2 σ76 := jI2_fr (congrFun (f78 2 (of_decide_eq_true rfl)) 0) (congrFun (f78 2 (of_decide_eq_true rfl)) 1) (congrFun (f78 2 (of_decide_eq_true rfl)) 2) (congrFun (f78 2 (of_decide_eq_true rfl)) 3) (f78 6 (of_decide_eq_true rfl)) I54
           have I98 : jI9 σ76 := jI9_fr ((congrFun (f78 9 (of_decide_eq_true rfl)) 0).trans (congrFun (f52 9 (of_decide_eq_true rfl)) 0)) ((f78 10 (of_decide_eq_true rfl)).trans (f52 10 (of_decide_eq_true rfl))) ((f78 11 (of_decide_eq_true rfl)).trans (f52 11 (of_decide_eq_true rfl))) hI9
           have I99 : jI12 σ76 := jI12_fr ((congrFun (f78 12 (of_decide_eq_true rfl)) 0).trans (congrFun (f52 12 (of_decide_eq_true rfl)) 0)) ((f78 13 (of_decide_eq_true rfl)).trans (f52 13 (of_decide_eq_true rfl))) hI12
           have I100 : jI16 σ76 := jI16_fr ((congrFun (f78 16 (of_decide_eq_true rfl)) 0).trans (congrFun (f52 16 (of_decide_eq_true rfl)) 0)) ((congrFun (f78 16 (of_decide_eq_true rfl)) 1).trans (congrFun (f52 16 (of_decide_eq_true rfl)) 1)) ((congrFun (f78 16 (of_decide_eq_true rfl)) 2).trans (congrFun (f52 16 (of_decide_eq_true rfl)) 2)) ((f78 17 (of_decide_eq_true rfl)).trans (f52 17 (of_decide_eq_true rfl))) hI16
           have I101 : jI18 σ76 := jI18_fr ((congrFun (f78 18 (of_decide_eq_true rfl)) 0).trans (congrFun (f52 18 (of_decide_eq_true rfl)) 0)) ((f78 19 (of_decide_eq_true rfl)).trans (f52 19 (of_decide_eq_true rfl))) hI18
           have I102 : jI22 σ76 := jI22_fr ((congrFun (f78 22 (of_decide_eq_true rfl)) 0).trans (congrFun (f52 22 (of_decide_eq_true rfl)) 0)) ((f78 23 (of_decide_eq_true rfl)).trans (f52 23 (of_decide_eq_true rfl))) hI22
           exact by
            have I103 : jI31 σ76 := jI31_fr ((congrFun (f78 31 (of_decide_eq_true rfl)) 8).trans (congrFun (f52 31 (of_decide_eq_true rfl)) 8)) ((f78 33 (of_decide_eq_true rfl)).trans (f52 33 (of_decide_eq_true rfl))) ((f78 36 (of_decide_eq_true rfl)).trans (f52 36 (of_decide_eq_true rfl))) hI31
            have I104 : jI38 σ76 := jI38_fr ((congrFun (f78 38 (of_decide_eq_true rfl)) 0).trans (congrFun (f52 38 (of_decide_eq_true rfl)) 0)) ((congrFun (f78 38 (of_decide_eq_true rfl)) 1).trans (congrFun (f52 38 (of_decide_eq_true rfl)) 1)) ((f78 39 (of_decide_eq_true rfl)).trans (f52 39 (of_decide_eq_true rfl))) hI38
            have I105 : jI43 σ76 := jI43_fr ((congrFun (f78 43 (of_decide_eq_true rfl)) 8).trans (congrFun (f52 43 (of_decide_eq_true rfl)) 8)) hI43
            have I106 : jI47 σ76 := jI47_fr ((congrFun (f78 47 (of_decide_eq_true rfl)) 0).trans (congrFun (f52 47 (of_decide_eq_true rfl)) 0)) ((f78 48 (of_decide_eq_true rfl)).trans (f52 48 (of_decide_eq_true rfl))) ((f78 49 (of_decide_eq_true rfl)).trans (f52 49 (of_decide_eq_true rfl))) hI47
            have I107 : jI50 σ76 := jI50_fr ((f78 52 (of_decide_eq_true rfl)).trans (f52 52 (of_decide_eq_true rfl))) hI50
            have I108 : jI102 σ76 := jI102_fr (f79 6 (of_decide_eq_true rfl)) (f78 60 (of_decide_eq_true rfl)) (f78 61 (of_decide_eq_true rfl)) I72
            have I109 : jI103 σ76 := jI103_fr ((f79 9 (of_decide_eq_true rfl)).trans (congrFun (f52 55 (of_decide_eq_true rfl)) 9)) hI103
            have I110 : jI104 σ76 := jI104_fr ((f79 10 (of_decide_eq_true rfl)).trans (congrFun (f52 55 (of_decide_eq_true rfl)) 10)) ((f79 12 (of_decide_eq_true rfl)).trans (congrFun (f52 55 (of_decide_eq_true rfl)) 12)) ((f79 13 (of_decide_eq_true rfl)).trans (congrFun (f52 55 (of_decide_eq_true rfl)) 13)) ((f78 62 (of_decide_eq_true rfl)).trans (f52 62 (of_decide_eq_true rfl))) ((f78 67 (of_decide_eq_true rfl)).trans (f52 67 (of_decide_eq_true rfl))) hI104
            have I111 : jI105 σ76 := jI105_fr ((f79 15 (of_decide_eq_true rfl)).trans (congrFun (f52 55 (of_decide_eq_true rfl)) 15)) ((f78 65 (of_decide_eq_true rfl)).trans (f52 65 (of_decide_eq_true rfl))) hI105
            have I112 : jI106 σ76 := jI106_fr ((f79 32 (of_decide_eq_true rfl)).trans (congrFun (f52 55 (of_decide_eq_true rfl)) 32)) ((f78 70 (of_decide_eq_true rfl)).trans (f52 70 (of_decide_eq_true rfl))) ((f78 71 (of_decide_eq_true rfl)).trans (f52 71 (of_decide_eq_true rfl))) ((f78 72 (of_decide_eq_true rfl)).trans (f52 72 (of_decide_eq_true rfl))) hI106
            have I113 : jI107 σ76 := jI107_fr ((f79 12 (of_decide_eq_true rfl)).trans (congrFun (f52 55 (of_decide_eq_true rfl)) 12)) ((f79 47 (of_decide_eq_true rfl)).trans (congrFun (f52 55 (of_decide_eq_true rfl)) 47)) ((f78 80 (of_decide_eq_true rfl)).trans (f52 80 (of_decide_eq_true rfl))) hI107
            have I114 : jI109 σ76 := jI109_fr ((f79 50 (of_decide_eq_true rfl)).trans (congrFun (f52 55 (of_decide_eq_true rfl)) 50)) hI109
            have I115 : jI110 σ76 := jI110_fr ((f78 86 (of_decide_eq_true rfl)).trans (f52 86 (of_decide_eq_true rfl))) ((f78 87 (of_decide_eq_true rfl)).trans (f52 87 (of_decide_eq_true rfl))) hI110
            have I116 : jI111 σ76 := jI111_fr ((f78 79 (of_decide_eq_true rfl)).trans (f52 79 (of_decide_eq_true rfl))) hI111
            have I117 : jI119 σ76 := jI119_fr ((f78 68 (of_decide_eq_true rfl)).trans (f52 68 (of_decide_eq_true rfl))) hI119
            have p118 : jKept σ76 := jKept.fr ((f78 75 (of_decide_eq_true rfl)).trans (f52 75 (of_decide_eq_true rfl))) ((f78 76 (of_decide_eq_true rfl)).trans (f52 76 (of_decide_eq_true rfl))) ((f78 77 (of_decide_eq_true rfl)).trans (f52 77 (of_decide_eq_true rfl))) hs_jKept
            have p119 : jBook σ76 := jBook.fr ((f79 47 (of_decide_eq_true rfl)).trans (congrFun (f52 55 (of_decide_eq_true rfl)) 47)) ((f79 10 (of_decide_eq_true rfl)).trans (congrFun (f52 55 (of_decide_eq_true rfl)) 10)) ((f78 81 (of_decide_eq_true rfl)).trans (f52 81 (of_decide_eq_true rfl))) hs_jBook
            have z120 : (σ76 2 0).toInt = (σ 2 0).toInt := (congrArg Int32.toInt (show σ76 2 0 = (σ 2 0) from ((congrFun (f78 2 (of_decide_eq_true rfl)) 0).trans (f53 0 (of_decide_eq_true rfl)))))
            have z121 : (σ76 55 6).toInt = (σ 55 6).toInt := (congrArg Int32.toInt (show σ76 55 6 = (σ 55 6) from ((f79 6 (of_decide_eq_true rfl)).trans (congrFun (f52 55 (of_decide_eq_true rfl)) 6))))
            have z122 : (σ76 2 2).toInt = (σ50 2 2).toInt := (congrArg Int32.toInt (show σ76 2 2 = (σ50 2 2) from (congrFun (f78 2 (of_decide_eq_true rfl)) 2)))
            have z123 : (σ76 2 3).toInt = (σ50 2 3).toInt := (congrArg Int32.toInt (show σ76 2 3 = (σ50 2 3) from (congrFun (f78 2 (of_decide_eq_true rfl)) 3)))
            have z124 : (σ76 9 0).toInt = (σ 9 0).toInt := (congrArg Int32.toInt (show σ76 9 0 = (σ 9 0) from ((congrFun (f78 9 (of_decide_eq_true rfl)) 0).trans (congrFun (f52 9 (of_decide_eq_true rfl)) 0))))
            have z125 : (σ76 55 15).toInt = (σ 55 15).toInt := (congrArg Int32.toInt (show σ76 55 15 = (σ 55 15) from ((f79 15 (of_decide_eq_true rfl)).trans (congrFun (f52 55 (of_decide_eq_true rfl)) 15))))
            have z126 : (σ76 16 0).toInt = (σ 16 0).toInt := (congrArg Int32.toInt (show σ76 16 0 = (σ 16 0) from ((congrFun (f78 16 (of_decide_eq_true rfl)) 0).trans (congrFun (f52 16 (of_decide_eq_true rfl)) 0))))
            have z127 : (σ76 55 10).toInt = (σ 55 10).toInt := (congrArg Int32.toInt (show σ76 55 10 = (σ 55 10) from ((f79 10 (of_decide_eq_true rfl)).trans (congrFun (f52 55 (of_decide_eq_true rfl)) 10))))
            have z128 : (σ76 16 1).toInt = (σ 16 1).toInt := (congrArg Int32.toInt (show σ76 16 1 = (σ 16 1) from ((congrFun (f78 16 (of_decide_eq_true rfl)) 1).trans (congrFun (f52 16 (of_decide_eq_true rfl)) 1))))
            have z129 : (σ76 55 12).toInt = (σ 55 12).toInt := (congrArg Int32.toInt (show σ76 55 12 = (σ 55 12) from ((f79 12 (of_decide_eq_true rfl)).trans (congrFun (f52 55 (of_decide_eq_true rfl)) 12))))
            have z130 : (σ76 16 2).toInt = (σ 16 2).toInt := (congrArg Int32.toInt (show σ76 16 2 = (σ 16 2) from ((congrFun (f78 16 (of_decide_eq_true rfl)) 2).trans (congrFun (f52 16 (of_decide_eq_true rfl)) 2))))
            have z131 : (σ76 55 13).toInt = (σ 55 13).toInt := (congrArg Int32.toInt (show σ76 55 13 = (σ 55 13) from ((f79 13 (of_decide_eq_true rfl)).trans (congrFun (f52 55 (of_decide_eq_true rfl)) 13))))
            have z132 : (σ76 38 0).toInt = (σ 38 0).toInt := (congrArg Int32.toInt (show σ76 38 0 = (σ 38 0) from ((congrFun (f78 38 (of_decide_eq_true rfl)) 0).trans (congrFun (f52 38 (of_decide_eq_true rfl)) 0))))
            have z133 : (σ76 55 32).toInt = (σ 55 32).toInt := (congrArg Int32.toInt (show σ76 55 32 = (σ 55 32) from ((f79 32 (of_decide_eq_true rfl)).trans (congrFun (f52 55 (of_decide_eq_true rfl)) 32))))
            have z134 : (σ76 38 1).toInt = (σ 38 1).toInt := (congrArg Int32.toInt (show σ76 38 1 = (σ 38 1) from ((congrFun (f78 38 (of_decide_eq_true rfl)) 1).trans (congrFun (f52 38 (of_decide_eq_true rfl)) 1))))
            have z135 : (σ76 55 55).toInt = (σ 55 55).toInt := (congrArg Int32.toInt (show σ76 55 55 = (σ 55 55) from ((f79 55 (of_decide_eq_true rfl)).trans (congrFun (f52 55 (of_decide_eq_true rfl)) 55))))
            have z136 : (σ76 47 0).toInt = (σ 47 0).toInt := (congrArg Int32.toInt (show σ76 47 0 = (σ 47 0) from ((congrFun (f78 47 (of_decide_eq_true rfl)) 0).trans (congrFun (f52 47 (of_decide_eq_true rfl)) 0))))
            have z137 : (σ76 55 47).toInt = (σ 55 47).toInt := (congrArg Int32.toInt (show σ76 55 47 = (σ 55 47) from ((f79 47 (of_decide_eq_true rfl)).trans (congrFun (f52 55 (of_decide_eq_true rfl)) 47))))
            have z138 : (σ76 55 30).toInt = (σ 55 30).toInt := (congrArg Int32.toInt (show σ76 55 30 = (σ 55 30) from ((f79 30 (of_decide_eq_true rfl)).trans (congrFun (f52 55 (of_decide_eq_true rfl)) 30))))
            have z139 : (σ76 55 31).toInt = (σ 55 31).toInt := (congrArg Int32.toInt (show σ76 55 31 = (σ 55 31) from ((f79 31 (of_decide_eq_true rfl)).trans (congrFun (f52 55 (of_decide_eq_true rfl)) 31))))
            exact by exact ih x96 σ76 τ _ _ ls (by have h9 := tx96; omega) ⟨I97, I98, I99, I100, I101, I102, I103, I104, I105, I106, I107, I80, I108, I109, I110, I111, I112, I113, I114, I115, I116, I117, p118, p119, (by omega), (by omega), (by omega), (by omega), (by omega), (by omega), (by omega), (by omega), (by omega), (by omega), (by omega), (by omega), (show jNumP (σ76 3) (σ76 56) (σ76 6) (σ76 57) (σ76 7) (σ76 58) (σ76 8) (σ76 59) (σ76 55 6).toInt (σ76 55 4).toInt by rw [show σ76 3 = σ 3 from ((f78 3 (of_decide_eq_true rfl)).trans k69.1), show σ76 56 = σ 56 from (k94.1.trans (f52 56 (of_decide_eq_true rfl))), show σ76 6 = σ 6 from ((f78 6 (of_decide_eq_true rfl)).trans k69.2.1), show σ76 57 = σ 57 from (k94.2.1.trans (f52 57 (of_decide_eq_true rfl))), show σ76 7 = σ 7 from ((f78 7 (of_decide_eq_true rfl)).trans k69.2.2.1), show σ76 58 = σ 58 from (k94.2.2.1.trans (f52 58 (of_decide_eq_true rfl))), show σ76 8 = σ 8 from ((f78 8 (of_decide_eq_true rfl)).trans k69.2.2.2), show σ76 59 = σ 59 from (k94.2.2.2.trans (f52 59 (of_decide_eq_true rfl))), show (σ76 55 6).toInt = (σ 55 6).toInt from by omega, show (σ76 55 4).toInt = (σ 55 4).toInt from by omega]; exact hr0), (show jOvP (σ76 56) (σ76 57) (σ76 58) (σ76 59) (σ76 55 4).toInt by rw [show σ76 56 = σ 56 from (k94.1.trans (f52 56 (of_decide_eq_true rfl))), show σ76 57 = σ 57 from (k94.2.1.trans (f52 57 (of_decide_eq_true rfl))), show σ76 58 = σ 58 from (k94.2.2.1.trans (f52 58 (of_decide_eq_true rfl))), show σ76 59 = σ 59 from (k94.2.2.2.trans (f52 59 (of_decide_eq_true rfl))), show (σ76 55 4).toInt = (σ 55 4).toInt from by omega]; exact hr1), (show jTp (σ76 10) (σ76 63) (σ76 55 15).toInt by rw [show σ76 10 = σ 10 from ((f78 10 (of_decide_eq_true rfl)).trans (f52 10 (of_decide_eq_true rfl))), show σ76 63 = σ 63 from ((f78 63 (of_decide_eq_true rfl)).trans (f52 63 (of_decide_eq_true rfl)))]; exact hr2.le (by omega)), (show jSo (σ76 17) (σ76 62) (σ76 16 0).toInt by rw [show σ76 17 = σ 17 from ((f78 17 (of_decide_eq_true rfl)).trans (f52 17 (of_decide_eq_true rfl))), show σ76 62 = σ 62 from ((f78 62 (of_decide_eq_true rfl)).trans (f52 62 (of_decide_eq_true rfl))), show (σ76 16 0).toInt = (σ 16 0).toInt from by omega]; exact hr3), (show jShP (σ76 51) (σ76 52) (σ76 53) (σ76 86) (σ76 87) (σ76 55 32).toInt by rw [show σ76 51 = σ 51 from ((f78 51 (of_decide_eq_true rfl)).trans (f52 51 (of_decide_eq_true rfl))), show σ76 52 = σ 52 from ((f78 52 (of_decide_eq_true rfl)).trans (f52 52 (of_decide_eq_true rfl))), show σ76 53 = σ 53 from ((f78 53 (of_decide_eq_true rfl)).trans (f52 53 (of_decide_eq_true rfl))), show σ76 86 = σ 86 from ((f78 86 (of_decide_eq_true rfl)).trans (f52 86 (of_decide_eq_true rfl))), show σ76 87 = σ 87 from ((f78 87 (of_decide_eq_true rfl)).trans (f52 87 (of_decide_eq_true rfl)))]; exact (hr4.up (by omega) (by omega))), (show jEl (σ76 51) (σ76 52) (τ 54) (τ 88) by rw [show σ76 51 = σ 51 from ((f78 51 (of_decide_eq_true rfl)).trans (f52 51 (of_decide_eq_true rfl))), show σ76 52 = σ 52 from ((f78 52 (of_decide_eq_true rfl)).trans (f52 52 (of_decide_eq_true rfl)))]; exact hr5), (show jByP (σ76 51) (σ76 52) (τ 54) by rw [show σ76 51 = σ 51 from ((f78 51 (of_decide_eq_true rfl)).trans (f52 51 (of_decide_eq_true rfl))), show σ76 52 = σ 52 from ((f78 52 (of_decide_eq_true rfl)).trans (f52 52 (of_decide_eq_true rfl)))]; exact hr6), (show jBk (σ76 48) (σ76 80) (σ76 49) (σ76 81) (σ76 55 47).toInt by rw [show σ76 48 = σ 48 from ((f78 48 (of_decide_eq_true rfl)).trans (f52 48 (of_decide_eq_true rfl))), show σ76 49 = σ 49 from ((f78 49 (of_decide_eq_true rfl)).trans (f52 49 (of_decide_eq_true rfl))), show σ76 80 = σ 80 from ((f78 80 (of_decide_eq_true rfl)).trans (f52 80 (of_decide_eq_true rfl))), show σ76 81 = σ 81 from ((f78 81 (of_decide_eq_true rfl)).trans (f52 81 (of_decide_eq_true rfl))), show (σ76 55 47).toInt = (σ 55 47).toInt from by omega]; exact hr7), (show jKd (σ76 39) (σ76 70) (σ76 55 32).toInt by rw [show σ76 39 = σ 39 from ((f78 39 (of_decide_eq_true rfl)).trans (f52 39 (of_decide_eq_true rfl))), show σ76 70 = σ 70 from ((f78 70 (of_decide_eq_true rfl)).trans (f52 70 (of_decide_eq_true rfl))), show (σ76 55 32).toInt = (σ 55 32).toInt from by omega]; exact hr8), (show jTt (σ76 42) (σ76 85) (σ76 55 55).toInt by rw [show σ76 42 = σ 42 from ((f78 42 (of_decide_eq_true rfl)).trans (f52 42 (of_decide_eq_true rfl))), show σ76 85 = σ 85 from ((f78 85 (of_decide_eq_true rfl)).trans (f52 85 (of_decide_eq_true rfl))), show (σ76 55 55).toInt = (σ 55 55).toInt from by omega]; exact hr9)⟩ hP hS (lv_sub hl [0, 1, 2, 3] rfl)
        · obtain ⟨q148, k141, k142, k143, k144, k145, k146, k147⟩ := h90
          refine lv_pop hx hb dL_law_769 rfl ?_
          refine lv_goto (tgt := 1357) hx hb dL_law_770 (of_decide_eq_true rfl) ?_
          obtain ⟨x149, ex149⟩ : ∃ y : Int32, y = x0 + 6 := ⟨_, rfl⟩
          exact by
           have tx149 : x149.toInt = x0.toInt + 6 := (jadd ex149 rfl jz_6 (by omega) (by omega)).trans (by omega)
           refine lv_iinc (v := x149) (lv' := [(3, .int x149), (2, .ref (ad 55)), (1, .ref (ad 0)), (0, .ref b)]) hx hb dL_law_1357 hl (k := 0) rfl (by rw [ex149]; rfl) (of_decide_eq_true rfl) rfl (fun ls hl => ?_)
           refine lv_goto (tgt := 18) hx hb dL_law_1360 (of_decide_eq_true rfl) ?_
           have I150 : jI2 σ76 := jI2_fr (congrFun (f78 2 (of_decide_eq_true rfl)) 0) (congrFun (f78 2 (of_decide_eq_true rfl)) 1) (congrFun (f78 2 (of_decide_eq_true rfl)) 2) (congrFun (f78 2 (of_decide_eq_true rfl)) 3) (f78 6 (of_decide_eq_true rfl)) I54
           have I151 : jI9 σ76 := jI9_fr ((congrFun (f78 9 (of_decide_eq_true rfl)) 0).trans (congrFun (f52 9 (of_decide_eq_true rfl)) 0)) ((f78 10 (of_decide_eq_true rfl)).trans (f52 10 (of_decide_eq_true rfl))) ((f78 11 (of_decide_eq_true rfl)).trans (f52 11 (of_decide_eq_true rfl))) hI9
           have I152 : jI12 σ76 := jI12_fr ((congrFun (f78 12 (of_decide_eq_true rfl)) 0).trans (congrFun (f52 12 (of_decide_eq_true rfl)) 0)) ((f78 13 (of_decide_eq_true rfl)).trans (f52 13 (of_decide_eq_true rfl))) hI12
           have I153 : jI16 σ76 := jI16_fr ((congrFun (f78 16 (of_decide_eq_true rfl)) 0).trans (congrFun (f52 16 (of_decide_eq_true rfl)) 0)) ((congrFun (f78 16 (of_decide_eq_true rfl)) 1).trans (congrFun (f52 16 (of_decide_eq_true rfl)) 1)) ((congrFun (f78 16 (of_decide_eq_true rfl)) 2).trans (congrFun (f52 16 (of_decide_eq_true rfl)) 2)) ((f78 17 (of_decide_eq_true rfl)).trans (f52 17 (of_decide_eq_true rfl))) hI16
           have I154 : jI18 σ76 := jI18_fr ((congrFun (f78 18 (of_decide_eq_true rfl)) 0).trans (congrFun (f52 18 (of_decide_eq_true rfl)) 0)) ((f78 19 (of_decide_eq_true rfl)).trans (f52 19 (of_decide_eq_true rfl))) hI18
           have I155 : jI22 σ76 := jI22_fr ((congrFun (f78 22 (of_decide_eq_true rfl)) 0).trans (congrFun (f52 22 (of_decide_eq_true rfl)) 0)) ((f78 23 (of_decide_eq_true rfl)).trans (f52 23 (of_decide_eq_true rfl))) hI22
           exact by
            have I156 : jI31 σ76 := jI31_fr ((congrFun (f78 31 (of_decide_eq_true rfl)) 8).trans (congrFun (f52 31 (of_decide_eq_true rfl)) 8)) ((f78 33 (of_decide_eq_true rfl)).trans (f52 33 (of_decide_eq_true rfl))) ((f78 36 (of_decide_eq_true rfl)).trans (f52 36 (of_decide_eq_true rfl))) hI31
            have I157 : jI38 σ76 := jI38_fr ((congrFun (f78 38 (of_decide_eq_true rfl)) 0).trans (congrFun (f52 38 (of_decide_eq_true rfl)) 0)) ((congrFun (f78 38 (of_decide_eq_true rfl)) 1).trans (congrFun (f52 38 (of_decide_eq_true rfl)) 1)) ((f78 39 (of_decide_eq_true rfl)).trans (f52 39 (of_decide_eq_true rfl))) hI38
            have I158 : jI43 σ76 := jI43_fr ((congrFun (f78 43 (of_decide_eq_true rfl)) 8).trans (congrFun (f52 43 (of_decide_eq_true rfl)) 8)) hI43
            have I159 : jI47 σ76 := jI47_fr ((congrFun (f78 47 (of_decide_eq_true rfl)) 0).trans (congrFun (f52 47 (of_decide_eq_true rfl)) 0)) ((f78 48 (of_decide_eq_true rfl)).trans (f52 48 (of_decide_eq_true rfl))) ((f78 49 (of_decide_eq_true rfl)).trans (f52 49 (of_decide_eq_true rfl))) hI47
            have I160 : jI50 σ76 := jI50_fr ((f78 52 (of_decide_eq_true rfl)).trans (f52 52 (of_decide_eq_true rfl))) hI50
            have I161 : jI102 σ76 := jI102_fr (f79 6 (of_decide_eq_true rfl)) (f78 60 (of_decide_eq_true rfl)) (f78 61 (of_decide_eq_true rfl)) I72
            have I162 : jI103 σ76 := jI103_fr ((f79 9 (of_decide_eq_true rfl)).trans (congrFun (f52 55 (of_decide_eq_true rfl)) 9)) hI103
            have I163 : jI104 σ76 := jI104_fr ((f79 10 (of_decide_eq_true rfl)).trans (congrFun (f52 55 (of_decide_eq_true rfl)) 10)) ((f79 12 (of_decide_eq_true rfl)).trans (congrFun (f52 55 (of_decide_eq_true rfl)) 12)) ((f79 13 (of_decide_eq_true rfl)).trans (congrFun (f52 55 (of_decide_eq_true rfl)) 13)) ((f78 62 (of_decide_eq_true rfl)).trans (f52 62 (of_decide_eq_true rfl))) ((f78 67 (of_decide_eq_true rfl)).trans (f52 67 (of_decide_eq_true rfl))) hI104
            have I164 : jI105 σ76 := jI105_fr ((f79 15 (of_decide_eq_true rfl)).trans (congrFun (f52 55 (of_decide_eq_true rfl)) 15)) ((f78 65 (of_decide_eq_true rfl)).trans (f52 65 (of_decide_eq_true rfl))) hI105
            have I165 : jI106 σ76 := jI106_fr ((f79 32 (of_decide_eq_true rfl)).trans (congrFun (f52 55 (of_decide_eq_true rfl)) 32)) ((f78 70 (of_decide_eq_true rfl)).trans (f52 70 (of_decide_eq_true rfl))) ((f78 71 (of_decide_eq_true rfl)).trans (f52 71 (of_decide_eq_true rfl))) ((f78 72 (of_decide_eq_true rfl)).trans (f52 72 (of_decide_eq_true rfl))) hI106
            have I166 : jI107 σ76 := jI107_fr ((f79 12 (of_decide_eq_true rfl)).trans (congrFun (f52 55 (of_decide_eq_true rfl)) 12)) ((f79 47 (of_decide_eq_true rfl)).trans (congrFun (f52 55 (of_decide_eq_true rfl)) 47)) ((f78 80 (of_decide_eq_true rfl)).trans (f52 80 (of_decide_eq_true rfl))) hI107
            have I167 : jI109 σ76 := jI109_fr ((f79 50 (of_decide_eq_true rfl)).trans (congrFun (f52 55 (of_decide_eq_true rfl)) 50)) hI109
            have I168 : jI110 σ76 := jI110_fr ((f78 86 (of_decide_eq_true rfl)).trans (f52 86 (of_decide_eq_true rfl))) ((f78 87 (of_decide_eq_true rfl)).trans (f52 87 (of_decide_eq_true rfl))) hI110
            have I169 : jI111 σ76 := jI111_fr ((f78 79 (of_decide_eq_true rfl)).trans (f52 79 (of_decide_eq_true rfl))) hI111
            have I170 : jI119 σ76 := jI119_fr ((f78 68 (of_decide_eq_true rfl)).trans (f52 68 (of_decide_eq_true rfl))) hI119
            have p171 : jKept σ76 := jKept.fr ((f78 75 (of_decide_eq_true rfl)).trans (f52 75 (of_decide_eq_true rfl))) ((f78 76 (of_decide_eq_true rfl)).trans (f52 76 (of_decide_eq_true rfl))) ((f78 77 (of_decide_eq_true rfl)).trans (f52 77 (of_decide_eq_true rfl))) hs_jKept
            have p172 : jBook σ76 := jBook.fr ((f79 47 (of_decide_eq_true rfl)).trans (congrFun (f52 55 (of_decide_eq_true rfl)) 47)) ((f79 10 (of_decide_eq_true rfl)).trans (congrFun (f52 55 (of_decide_eq_true rfl)) 10)) ((f78 81 (of_decide_eq_true rfl)).trans (f52 81 (of_decide_eq_true rfl))) hs_jBook
            have z173 : (σ76 2 0).toInt = (σ 2 0).toInt := (congrArg Int32.toInt (show σ76 2 0 = (σ 2 0) from ((congrFun (f78 2 (of_decide_eq_true rfl)) 0).trans (f53 0 (of_decide_eq_true rfl)))))
            have z174 : (σ76 55 6).toInt = (σ 55 6).toInt := (congrArg Int32.toInt (show σ76 55 6 = (σ 55 6) from ((f79 6 (of_decide_eq_true rfl)).trans (congrFun (f52 55 (of_decide_eq_true rfl)) 6))))
            have z175 : (σ76 2 2).toInt = (σ50 2 2).toInt := (congrArg Int32.toInt (show σ76 2 2 = (σ50 2 2) from (congrFun (f78 2 (of_decide_eq_true rfl)) 2)))
            have z176 : (σ76 2 3).toInt = (σ50 2 3).toInt := (congrArg Int32.toInt (show σ76 2 3 = (σ50 2 3) from (congrFun (f78 2 (of_decide_eq_true rfl)) 3)))
            have z177 : (σ76 9 0).toInt = (σ 9 0).toInt := (congrArg Int32.toInt (show σ76 9 0 = (σ 9 0) from ((congrFun (f78 9 (of_decide_eq_true rfl)) 0).trans (congrFun (f52 9 (of_decide_eq_true rfl)) 0))))
            have z178 : (σ76 55 15).toInt = (σ 55 15).toInt := (congrArg Int32.toInt (show σ76 55 15 = (σ 55 15) from ((f79 15 (of_decide_eq_true rfl)).trans (congrFun (f52 55 (of_decide_eq_true rfl)) 15))))
            have z179 : (σ76 16 0).toInt = (σ 16 0).toInt := (congrArg Int32.toInt (show σ76 16 0 = (σ 16 0) from ((congrFun (f78 16 (of_decide_eq_true rfl)) 0).trans (congrFun (f52 16 (of_decide_eq_true rfl)) 0))))
            have z180 : (σ76 55 10).toInt = (σ 55 10).toInt := (congrArg Int32.toInt (show σ76 55 10 = (σ 55 10) from ((f79 10 (of_decide_eq_true rfl)).trans (congrFun (f52 55 (of_decide_eq_true rfl)) 10))))
            have z181 : (σ76 16 1).toInt = (σ 16 1).toInt := (congrArg Int32.toInt (show σ76 16 1 = (σ 16 1) from ((congrFun (f78 16 (of_decide_eq_true rfl)) 1).trans (congrFun (f52 16 (of_decide_eq_true rfl)) 1))))
            have z182 : (σ76 55 12).toInt = (σ 55 12).toInt := (congrArg Int32.toInt (show σ76 55 12 = (σ 55 12) from ((f79 12 (of_decide_eq_true rfl)).trans (congrFun (f52 55 (of_decide_eq_true rfl)) 12))))
            have z183 : (σ76 16 2).toInt = (σ 16 2).toInt := (congrArg Int32.toInt (show σ76 16 2 = (σ 16 2) from ((congrFun (f78 16 (of_decide_eq_true rfl)) 2).trans (congrFun (f52 16 (of_decide_eq_true rfl)) 2))))
            have z184 : (σ76 55 13).toInt = (σ 55 13).toInt := (congrArg Int32.toInt (show σ76 55 13 = (σ 55 13) from ((f79 13 (of_decide_eq_true rfl)).trans (congrFun (f52 55 (of_decide_eq_true rfl)) 13))))
            have z185 : (σ76 38 0).toInt = (σ 38 0).toInt := (congrArg Int32.toInt (show σ76 38 0 = (σ 38 0) from ((congrFun (f78 38 (of_decide_eq_true rfl)) 0).trans (congrFun (f52 38 (of_decide_eq_true rfl)) 0))))
            have z186 : (σ76 55 32).toInt = (σ 55 32).toInt := (congrArg Int32.toInt (show σ76 55 32 = (σ 55 32) from ((f79 32 (of_decide_eq_true rfl)).trans (congrFun (f52 55 (of_decide_eq_true rfl)) 32))))
            have z187 : (σ76 38 1).toInt = (σ 38 1).toInt := (congrArg Int32.toInt (show σ76 38 1 = (σ 38 1) from ((congrFun (f78 38 (of_decide_eq_true rfl)) 1).trans (congrFun (f52 38 (of_decide_eq_true rfl)) 1))))
            have z188 : (σ76 55 55).toInt = (σ 55 55).toInt := (congrArg Int32.toInt (show σ76 55 55 = (σ 55 55) from ((f79 55 (of_decide_eq_true rfl)).trans (congrFun (f52 55 (of_decide_eq_true rfl)) 55))))
            have z189 : (σ76 47 0).toInt = (σ 47 0).toInt := (congrArg Int32.toInt (show σ76 47 0 = (σ 47 0) from ((congrFun (f78 47 (of_decide_eq_true rfl)) 0).trans (congrFun (f52 47 (of_decide_eq_true rfl)) 0))))
            have z190 : (σ76 55 47).toInt = (σ 55 47).toInt := (congrArg Int32.toInt (show σ76 55 47 = (σ 55 47) from ((f79 47 (of_decide_eq_true rfl)).trans (congrFun (f52 55 (of_decide_eq_true rfl)) 47))))
            have z191 : (σ76 55 30).toInt = (σ 55 30).toInt := (congrArg Int32.toInt (show σ76 55 30 = (σ 55 30) from ((f79 30 (of_decide_eq_true rfl)).trans (congrFun (f52 55 (of_decide_eq_true rfl)) 30))))
            have z192 : (σ76 55 31).toInt = (σ 55 31).toInt := (congrArg Int32.toInt (show σ76 55 31 = (σ 55 31) from ((f79 31 (of_decide_eq_true rfl)).trans (congrFun (f52 55 (of_decide_eq_true rfl)) 31))))
            exact by exact ih x149 σ76 τ _ _ ls (by have h9 := tx149; omega) ⟨I150, I151, I152, I153, I154, I155, I156, I157, I158, I159, I160, I80, I161, I162, I163, I164, I165, I166, I167, I168, I169, I170, p171, p172, (by omega), (by omega), (by omega), (by omega), (by omega), (by omega), (by omega), (by omega), (by omega), (by omega), (by omega), (by omega), (False.elim (by omega)), (False.elim (by omega)), (show jTp (σ76 10) (σ76 63) (σ76 55 15).toInt by rw [show σ76 10 = σ 10 from ((f78 10 (of_decide_eq_true rfl)).trans (f52 10 (of_decide_eq_true rfl))), show σ76 63 = σ 63 from ((f78 63 (of_decide_eq_true rfl)).trans (f52 63 (of_decide_eq_true rfl)))]; exact hr2.le (by omega)), (show jSo (σ76 17) (σ76 62) (σ76 16 0).toInt by rw [show σ76 17 = σ 17 from ((f78 17 (of_decide_eq_true rfl)).trans (f52 17 (of_decide_eq_true rfl))), show σ76 62 = σ 62 from ((f78 62 (of_decide_eq_true rfl)).trans (f52 62 (of_decide_eq_true rfl))), show (σ76 16 0).toInt = (σ 16 0).toInt from by omega]; exact hr3), (show jShP (σ76 51) (σ76 52) (σ76 53) (σ76 86) (σ76 87) (σ76 55 32).toInt by rw [show σ76 51 = σ 51 from ((f78 51 (of_decide_eq_true rfl)).trans (f52 51 (of_decide_eq_true rfl))), show σ76 52 = σ 52 from ((f78 52 (of_decide_eq_true rfl)).trans (f52 52 (of_decide_eq_true rfl))), show σ76 53 = σ 53 from ((f78 53 (of_decide_eq_true rfl)).trans (f52 53 (of_decide_eq_true rfl))), show σ76 86 = σ 86 from ((f78 86 (of_decide_eq_true rfl)).trans (f52 86 (of_decide_eq_true rfl))), show σ76 87 = σ 87 from ((f78 87 (of_decide_eq_true rfl)).trans (f52 87 (of_decide_eq_true rfl)))]; exact (hr4.up (by omega) (by omega))), (show jEl (σ76 51) (σ76 52) (τ 54) (τ 88) by rw [show σ76 51 = σ 51 from ((f78 51 (of_decide_eq_true rfl)).trans (f52 51 (of_decide_eq_true rfl))), show σ76 52 = σ 52 from ((f78 52 (of_decide_eq_true rfl)).trans (f52 52 (of_decide_eq_true rfl)))]; exact hr5), (show jByP (σ76 51) (σ76 52) (τ 54) by rw [show σ76 51 = σ 51 from ((f78 51 (of_decide_eq_true rfl)).trans (f52 51 (of_decide_eq_true rfl))), show σ76 52 = σ 52 from ((f78 52 (of_decide_eq_true rfl)).trans (f52 52 (of_decide_eq_true rfl)))]; exact hr6), (show jBk (σ76 48) (σ76 80) (σ76 49) (σ76 81) (σ76 55 47).toInt by rw [show σ76 48 = σ 48 from ((f78 48 (of_decide_eq_true rfl)).trans (f52 48 (of_decide_eq_true rfl))), show σ76 49 = σ 49 from ((f78 49 (of_decide_eq_true rfl)).trans (f52 49 (of_decide_eq_true rfl))), show σ76 80 = σ 80 from ((f78 80 (of_decide_eq_true rfl)).trans (f52 80 (of_decide_eq_true rfl))), show σ76 81 = σ 81 from ((f78 81 (of_decide_eq_true rfl)).trans (f52 81 (of_decide_eq_true rfl))), show (σ76 55 47).toInt = (σ 55 47).toInt from by omega]; exact hr7), (show jKd (σ76 39) (σ76 70) (σ76 55 32).toInt by rw [show σ76 39 = σ 39 from ((f78 39 (of_decide_eq_true rfl)).trans (f52 39 (of_decide_eq_true rfl))), show σ76 70 = σ 70 from ((f78 70 (of_decide_eq_true rfl)).trans (f52 70 (of_decide_eq_true rfl))), show (σ76 55 32).toInt = (σ 55 32).toInt from by omega]; exact hr8), (show jTt (σ76 42) (σ76 85) (σ76 55 55).toInt by rw [show σ76 42 = σ 42 from ((f78 42 (of_decide_eq_true rfl)).trans (f52 42 (of_decide_eq_true rfl))), show σ76 85 = σ 85 from ((f78 85 (of_decide_eq_true rfl)).trans (f52 85 (of_decide_eq_true rfl))), show (σ76 55 55).toInt = (σ 55 55).toInt from by omega]; exact hr9)⟩ hP hS (lv_sub hl [0, 1, 2, 3] rfl)
    · obtain ⟨q201, k194, k195, k196, k197, k198, k199, k200⟩ := h65
      refine lv_pop hx hb dL_law_754 rfl ?_
      refine lv_aload_n hx hb dL_law_755 rfl (lv_at hl 1 rfl) ?_
      refine lv_aload_n hx hb dL_law_756 rfl (lv_at hl 3 rfl) ?_
      refine lv_iload_n hx hb dL_law_757 rfl (lv_at hl 0 rfl) ?_
      refine lv_iconst (v := 1) hx hb dL_law_758 (of_decide_eq_true rfl) ?_
      refine lv_iadd hx hb dL_law_759 ?_
      refine jtopr ex46.symm ?_
      exact by
       refine va_sld hx hb hX hbl hbA hS (jin tx46 (by omega) (by omega)) dL_law_760 ?_
       refine lv_aload_n hx hb dL_law_761 rfl (lv_at hl 3 rfl) ?_
       refine lv_iload_n hx hb dL_law_762 rfl (lv_at hl 0 rfl) ?_
       refine lv_iconst (v := 2) hx hb dL_law_763 (of_decide_eq_true rfl) ?_
       refine lv_iadd hx hb dL_law_764 ?_
       refine jtopr ex48.symm ?_
       refine va_sld hx hb hX hbl hbA hS (jin tx48 (by omega) (by omega)) dL_law_765 ?_
       have I202 : jI101 σ50 := jI101_fr (congrFun (f52 55 (of_decide_eq_true rfl)) 4) (congrFun (f52 55 (of_decide_eq_true rfl)) 5) (f52 56 (of_decide_eq_true rfl)) (f52 57 (of_decide_eq_true rfl)) (f52 58 (of_decide_eq_true rfl)) (f52 59 (of_decide_eq_true rfl)) hI101
       have I203 : jI102 σ50 := jI102_fr (congrFun (f52 55 (of_decide_eq_true rfl)) 6) (f52 60 (of_decide_eq_true rfl)) (f52 61 (of_decide_eq_true rfl)) hI102
       exact by
        have z204 : (σ50 55 6).toInt = (σ 55 6).toInt := (congrArg Int32.toInt (show σ50 55 6 = (σ 55 6) from (congrFun (f52 55 (of_decide_eq_true rfl)) 6)))
        have z205 : (σ50 55 5).toInt = (σ 55 5).toInt := (congrArg Int32.toInt (show σ50 55 5 = (σ 55 5) from (congrFun (f52 55 (of_decide_eq_true rfl)) 5)))
        have z206 : (σ50 55 4).toInt = (σ 55 4).toInt := (congrArg Int32.toInt (show σ50 55 4 = (σ 55 4) from (congrFun (f52 55 (of_decide_eq_true rfl)) 4)))
        refine jcallV (As := [.int (xs x46.toNatClampNeg), .int (xs x48.toNatClampNeg)]) (rest := []) ⟨hx, hb, hml, hown, hts⟩ hK hP hA hS hZ (c_X12_learn l D cI cL ad zz hJ σ50 τ (xs x46.toNatClampNeg) ((xs x46.toNatClampNeg).toInt) rfl (xs x48.toNatClampNeg) ((xs x48.toNatClampNeg).toInt) rfl I202 I203) cw_RL_92 (jc_55 cI cL ad σ50 τ) rfl ⟨Nat.le_of_ble_eq_true rfl, Nat.le_of_ble_eq_true rfl⟩ rfl rfl rfl hl.1 rfl (Nat.le_of_ble_eq_true rfl) dL_law_766 ⟨Nat.le_of_ble_eq_true rfl, Nat.le_of_ble_eq_true rfl⟩ (fun r208 σ207 τ207 H locs h207 hP hS => ?_)
        obtain ⟨rfl, f209, f210, I211, h207⟩ := h207
        obtain ⟨i213, i214, i215, w216, w217, w218, w219⟩ : (0 ≤ (σ207 55 5).toInt) ∧ ((σ207 55 5).toInt ≤ (σ207 55 4).toInt) ∧ ((σ207 55 4).toInt ≤ 40) ∧ (∀ k : Nat, k < 68 → (-200) ≤ (σ207 56 k).toInt ∧ (σ207 56 k).toInt ≤ 500) ∧ (∀ k : Nat, k < 40 → 0 ≤ (σ207 57 k).toInt ∧ (σ207 57 k).toInt ≤ 67) ∧ (∀ k : Nat, k < 40 → (-200) ≤ (σ207 58 k).toInt ∧ (σ207 58 k).toInt ≤ 500) ∧ (∀ k : Nat, k < 40 → (-200) ≤ (σ207 59 k).toInt ∧ (σ207 59 k).toInt ≤ 500) := id I211
        rcases h207 with h220 | h221
        · obtain ⟨q226, k222, k223, k224, k225⟩ := h220
          have q226 := q226.symm
          subst q226
          refine lv_pop hx hb dL_law_769 rfl ?_
          refine lv_goto (tgt := 1357) hx hb dL_law_770 (of_decide_eq_true rfl) ?_
          obtain ⟨x227, ex227⟩ : ∃ y : Int32, y = x0 + 6 := ⟨_, rfl⟩
          exact by
           have tx227 : x227.toInt = x0.toInt + 6 := (jadd ex227 rfl jz_6 (by omega) (by omega)).trans (by omega)
           refine lv_iinc (v := x227) (lv' := [(3, .int x227), (2, .ref (ad 55)), (1, .ref (ad 0)), (0, .ref b)]) hx hb dL_law_1357 hl (k := 0) rfl (by rw [ex227]; rfl) (of_decide_eq_true rfl) rfl (fun ls hl => ?_)
           refine lv_goto (tgt := 18) hx hb dL_law_1360 (of_decide_eq_true rfl) ?_
           have I228 : jI2 σ207 := jI2_fr (congrFun (f209 2 (of_decide_eq_true rfl)) 0) (congrFun (f209 2 (of_decide_eq_true rfl)) 1) (congrFun (f209 2 (of_decide_eq_true rfl)) 2) (congrFun (f209 2 (of_decide_eq_true rfl)) 3) (f209 6 (of_decide_eq_true rfl)) I54
           have I229 : jI9 σ207 := jI9_fr ((congrFun (f209 9 (of_decide_eq_true rfl)) 0).trans (congrFun (f52 9 (of_decide_eq_true rfl)) 0)) ((f209 10 (of_decide_eq_true rfl)).trans (f52 10 (of_decide_eq_true rfl))) ((f209 11 (of_decide_eq_true rfl)).trans (f52 11 (of_decide_eq_true rfl))) hI9
           have I230 : jI12 σ207 := jI12_fr ((congrFun (f209 12 (of_decide_eq_true rfl)) 0).trans (congrFun (f52 12 (of_decide_eq_true rfl)) 0)) ((f209 13 (of_decide_eq_true rfl)).trans (f52 13 (of_decide_eq_true rfl))) hI12
           have I231 : jI16 σ207 := jI16_fr ((congrFun (f209 16 (of_decide_eq_true rfl)) 0).trans (congrFun (f52 16 (of_decide_eq_true rfl)) 0)) ((congrFun (f209 16 (of_decide_eq_true rfl)) 1).trans (congrFun (f52 16 (of_decide_eq_true rfl)) 1)) ((congrFun (f209 16 (of_decide_eq_true rfl)) 2).trans (congrFun (f52 16 (of_decide_eq_true rfl)) 2)) ((f209 17 (of_decide_eq_true rfl)).trans (f52 17 (of_decide_eq_true rfl))) hI16
           have I232 : jI18 σ207 := jI18_fr ((congrFun (f209 18 (of_decide_eq_true rfl)) 0).trans (congrFun (f52 18 (of_decide_eq_true rfl)) 0)) ((f209 19 (of_decide_eq_true rfl)).trans (f52 19 (of_decide_eq_true rfl))) hI18
           have I233 : jI22 σ207 := jI22_fr ((congrFun (f209 22 (of_decide_eq_true rfl)) 0).trans (congrFun (f52 22 (of_decide_eq_true rfl)) 0)) ((f209 23 (of_decide_eq_true rfl)).trans (f52 23 (of_decide_eq_true rfl))) hI22
           exact by
            have I234 : jI31 σ207 := jI31_fr ((congrFun (f209 31 (of_decide_eq_true rfl)) 8).trans (congrFun (f52 31 (of_decide_eq_true rfl)) 8)) ((f209 33 (of_decide_eq_true rfl)).trans (f52 33 (of_decide_eq_true rfl))) ((f209 36 (of_decide_eq_true rfl)).trans (f52 36 (of_decide_eq_true rfl))) hI31
            have I235 : jI38 σ207 := jI38_fr ((congrFun (f209 38 (of_decide_eq_true rfl)) 0).trans (congrFun (f52 38 (of_decide_eq_true rfl)) 0)) ((congrFun (f209 38 (of_decide_eq_true rfl)) 1).trans (congrFun (f52 38 (of_decide_eq_true rfl)) 1)) ((f209 39 (of_decide_eq_true rfl)).trans (f52 39 (of_decide_eq_true rfl))) hI38
            have I236 : jI43 σ207 := jI43_fr ((congrFun (f209 43 (of_decide_eq_true rfl)) 8).trans (congrFun (f52 43 (of_decide_eq_true rfl)) 8)) hI43
            have I237 : jI47 σ207 := jI47_fr ((congrFun (f209 47 (of_decide_eq_true rfl)) 0).trans (congrFun (f52 47 (of_decide_eq_true rfl)) 0)) ((f209 48 (of_decide_eq_true rfl)).trans (f52 48 (of_decide_eq_true rfl))) ((f209 49 (of_decide_eq_true rfl)).trans (f52 49 (of_decide_eq_true rfl))) hI47
            have I238 : jI50 σ207 := jI50_fr ((f209 52 (of_decide_eq_true rfl)).trans (f52 52 (of_decide_eq_true rfl))) hI50
            have I239 : jI102 σ207 := jI102_fr (f210 6 (of_decide_eq_true rfl)) (f209 60 (of_decide_eq_true rfl)) (f209 61 (of_decide_eq_true rfl)) I203
            have I240 : jI103 σ207 := jI103_fr ((f210 9 (of_decide_eq_true rfl)).trans (congrFun (f52 55 (of_decide_eq_true rfl)) 9)) hI103
            have I241 : jI104 σ207 := jI104_fr ((f210 10 (of_decide_eq_true rfl)).trans (congrFun (f52 55 (of_decide_eq_true rfl)) 10)) ((f210 12 (of_decide_eq_true rfl)).trans (congrFun (f52 55 (of_decide_eq_true rfl)) 12)) ((f210 13 (of_decide_eq_true rfl)).trans (congrFun (f52 55 (of_decide_eq_true rfl)) 13)) ((f209 62 (of_decide_eq_true rfl)).trans (f52 62 (of_decide_eq_true rfl))) ((f209 67 (of_decide_eq_true rfl)).trans (f52 67 (of_decide_eq_true rfl))) hI104
            have I242 : jI105 σ207 := jI105_fr ((f210 15 (of_decide_eq_true rfl)).trans (congrFun (f52 55 (of_decide_eq_true rfl)) 15)) ((f209 65 (of_decide_eq_true rfl)).trans (f52 65 (of_decide_eq_true rfl))) hI105
            have I243 : jI106 σ207 := jI106_fr ((f210 32 (of_decide_eq_true rfl)).trans (congrFun (f52 55 (of_decide_eq_true rfl)) 32)) ((f209 70 (of_decide_eq_true rfl)).trans (f52 70 (of_decide_eq_true rfl))) ((f209 71 (of_decide_eq_true rfl)).trans (f52 71 (of_decide_eq_true rfl))) ((f209 72 (of_decide_eq_true rfl)).trans (f52 72 (of_decide_eq_true rfl))) hI106
            have I244 : jI107 σ207 := jI107_fr ((f210 12 (of_decide_eq_true rfl)).trans (congrFun (f52 55 (of_decide_eq_true rfl)) 12)) ((f210 47 (of_decide_eq_true rfl)).trans (congrFun (f52 55 (of_decide_eq_true rfl)) 47)) ((f209 80 (of_decide_eq_true rfl)).trans (f52 80 (of_decide_eq_true rfl))) hI107
            have I245 : jI109 σ207 := jI109_fr ((f210 50 (of_decide_eq_true rfl)).trans (congrFun (f52 55 (of_decide_eq_true rfl)) 50)) hI109
            have I246 : jI110 σ207 := jI110_fr ((f209 86 (of_decide_eq_true rfl)).trans (f52 86 (of_decide_eq_true rfl))) ((f209 87 (of_decide_eq_true rfl)).trans (f52 87 (of_decide_eq_true rfl))) hI110
            have I247 : jI111 σ207 := jI111_fr ((f209 79 (of_decide_eq_true rfl)).trans (f52 79 (of_decide_eq_true rfl))) hI111
            have I248 : jI119 σ207 := jI119_fr ((f209 68 (of_decide_eq_true rfl)).trans (f52 68 (of_decide_eq_true rfl))) hI119
            have p249 : jKept σ207 := jKept.fr ((f209 75 (of_decide_eq_true rfl)).trans (f52 75 (of_decide_eq_true rfl))) ((f209 76 (of_decide_eq_true rfl)).trans (f52 76 (of_decide_eq_true rfl))) ((f209 77 (of_decide_eq_true rfl)).trans (f52 77 (of_decide_eq_true rfl))) hs_jKept
            have p250 : jBook σ207 := jBook.fr ((f210 47 (of_decide_eq_true rfl)).trans (congrFun (f52 55 (of_decide_eq_true rfl)) 47)) ((f210 10 (of_decide_eq_true rfl)).trans (congrFun (f52 55 (of_decide_eq_true rfl)) 10)) ((f209 81 (of_decide_eq_true rfl)).trans (f52 81 (of_decide_eq_true rfl))) hs_jBook
            have z251 : (σ207 2 0).toInt = (σ 2 0).toInt := (congrArg Int32.toInt (show σ207 2 0 = (σ 2 0) from ((congrFun (f209 2 (of_decide_eq_true rfl)) 0).trans (f53 0 (of_decide_eq_true rfl)))))
            have z252 : (σ207 55 6).toInt = (σ 55 6).toInt := (congrArg Int32.toInt (show σ207 55 6 = (σ 55 6) from ((f210 6 (of_decide_eq_true rfl)).trans (congrFun (f52 55 (of_decide_eq_true rfl)) 6))))
            have z253 : (σ207 2 2).toInt = (σ50 2 2).toInt := (congrArg Int32.toInt (show σ207 2 2 = (σ50 2 2) from (congrFun (f209 2 (of_decide_eq_true rfl)) 2)))
            have z254 : (σ207 2 3).toInt = (σ50 2 3).toInt := (congrArg Int32.toInt (show σ207 2 3 = (σ50 2 3) from (congrFun (f209 2 (of_decide_eq_true rfl)) 3)))
            have z255 : (σ207 9 0).toInt = (σ 9 0).toInt := (congrArg Int32.toInt (show σ207 9 0 = (σ 9 0) from ((congrFun (f209 9 (of_decide_eq_true rfl)) 0).trans (congrFun (f52 9 (of_decide_eq_true rfl)) 0))))
            have z256 : (σ207 55 15).toInt = (σ 55 15).toInt := (congrArg Int32.toInt (show σ207 55 15 = (σ 55 15) from ((f210 15 (of_decide_eq_true rfl)).trans (congrFun (f52 55 (of_decide_eq_true rfl)) 15))))
            have z257 : (σ207 16 0).toInt = (σ 16 0).toInt := (congrArg Int32.toInt (show σ207 16 0 = (σ 16 0) from ((congrFun (f209 16 (of_decide_eq_true rfl)) 0).trans (congrFun (f52 16 (of_decide_eq_true rfl)) 0))))
            have z258 : (σ207 55 10).toInt = (σ 55 10).toInt := (congrArg Int32.toInt (show σ207 55 10 = (σ 55 10) from ((f210 10 (of_decide_eq_true rfl)).trans (congrFun (f52 55 (of_decide_eq_true rfl)) 10))))
            have z259 : (σ207 16 1).toInt = (σ 16 1).toInt := (congrArg Int32.toInt (show σ207 16 1 = (σ 16 1) from ((congrFun (f209 16 (of_decide_eq_true rfl)) 1).trans (congrFun (f52 16 (of_decide_eq_true rfl)) 1))))
            have z260 : (σ207 55 12).toInt = (σ 55 12).toInt := (congrArg Int32.toInt (show σ207 55 12 = (σ 55 12) from ((f210 12 (of_decide_eq_true rfl)).trans (congrFun (f52 55 (of_decide_eq_true rfl)) 12))))
            have z261 : (σ207 16 2).toInt = (σ 16 2).toInt := (congrArg Int32.toInt (show σ207 16 2 = (σ 16 2) from ((congrFun (f209 16 (of_decide_eq_true rfl)) 2).trans (congrFun (f52 16 (of_decide_eq_true rfl)) 2))))
            have z262 : (σ207 55 13).toInt = (σ 55 13).toInt := (congrArg Int32.toInt (show σ207 55 13 = (σ 55 13) from ((f210 13 (of_decide_eq_true rfl)).trans (congrFun (f52 55 (of_decide_eq_true rfl)) 13))))
            have z263 : (σ207 38 0).toInt = (σ 38 0).toInt := (congrArg Int32.toInt (show σ207 38 0 = (σ 38 0) from ((congrFun (f209 38 (of_decide_eq_true rfl)) 0).trans (congrFun (f52 38 (of_decide_eq_true rfl)) 0))))
            have z264 : (σ207 55 32).toInt = (σ 55 32).toInt := (congrArg Int32.toInt (show σ207 55 32 = (σ 55 32) from ((f210 32 (of_decide_eq_true rfl)).trans (congrFun (f52 55 (of_decide_eq_true rfl)) 32))))
            have z265 : (σ207 38 1).toInt = (σ 38 1).toInt := (congrArg Int32.toInt (show σ207 38 1 = (σ 38 1) from ((congrFun (f209 38 (of_decide_eq_true rfl)) 1).trans (congrFun (f52 38 (of_decide_eq_true rfl)) 1))))
            have z266 : (σ207 55 55).toInt = (σ 55 55).toInt := (congrArg Int32.toInt (show σ207 55 55 = (σ 55 55) from ((f210 55 (of_decide_eq_true rfl)).trans (congrFun (f52 55 (of_decide_eq_true rfl)) 55))))
            have z267 : (σ207 47 0).toInt = (σ 47 0).toInt := (congrArg Int32.toInt (show σ207 47 0 = (σ 47 0) from ((congrFun (f209 47 (of_decide_eq_true rfl)) 0).trans (congrFun (f52 47 (of_decide_eq_true rfl)) 0))))
            have z268 : (σ207 55 47).toInt = (σ 55 47).toInt := (congrArg Int32.toInt (show σ207 55 47 = (σ 55 47) from ((f210 47 (of_decide_eq_true rfl)).trans (congrFun (f52 55 (of_decide_eq_true rfl)) 47))))
            have z269 : (σ207 55 30).toInt = (σ 55 30).toInt := (congrArg Int32.toInt (show σ207 55 30 = (σ 55 30) from ((f210 30 (of_decide_eq_true rfl)).trans (congrFun (f52 55 (of_decide_eq_true rfl)) 30))))
            have z270 : (σ207 55 31).toInt = (σ 55 31).toInt := (congrArg Int32.toInt (show σ207 55 31 = (σ 55 31) from ((f210 31 (of_decide_eq_true rfl)).trans (congrFun (f52 55 (of_decide_eq_true rfl)) 31))))
            exact by exact ih x227 σ207 τ _ _ ls (by have h9 := tx227; omega) ⟨I228, I229, I230, I231, I232, I233, I234, I235, I236, I237, I238, I211, I239, I240, I241, I242, I243, I244, I245, I246, I247, I248, p249, p250, (by omega), (by omega), (by omega), (by omega), (by omega), (by omega), (by omega), (by omega), (by omega), (by omega), (by omega), (by omega), (False.elim (by omega)), (False.elim (by omega)), (show jTp (σ207 10) (σ207 63) (σ207 55 15).toInt by rw [show σ207 10 = σ 10 from ((f209 10 (of_decide_eq_true rfl)).trans (f52 10 (of_decide_eq_true rfl))), show σ207 63 = σ 63 from ((f209 63 (of_decide_eq_true rfl)).trans (f52 63 (of_decide_eq_true rfl)))]; exact hr2.le (by omega)), (show jSo (σ207 17) (σ207 62) (σ207 16 0).toInt by rw [show σ207 17 = σ 17 from ((f209 17 (of_decide_eq_true rfl)).trans (f52 17 (of_decide_eq_true rfl))), show σ207 62 = σ 62 from ((f209 62 (of_decide_eq_true rfl)).trans (f52 62 (of_decide_eq_true rfl))), show (σ207 16 0).toInt = (σ 16 0).toInt from by omega]; exact hr3), (show jShP (σ207 51) (σ207 52) (σ207 53) (σ207 86) (σ207 87) (σ207 55 32).toInt by rw [show σ207 51 = σ 51 from ((f209 51 (of_decide_eq_true rfl)).trans (f52 51 (of_decide_eq_true rfl))), show σ207 52 = σ 52 from ((f209 52 (of_decide_eq_true rfl)).trans (f52 52 (of_decide_eq_true rfl))), show σ207 53 = σ 53 from ((f209 53 (of_decide_eq_true rfl)).trans (f52 53 (of_decide_eq_true rfl))), show σ207 86 = σ 86 from ((f209 86 (of_decide_eq_true rfl)).trans (f52 86 (of_decide_eq_true rfl))), show σ207 87 = σ 87 from ((f209 87 (of_decide_eq_true rfl)).trans (f52 87 (of_decide_eq_true rfl)))]; exact (hr4.up (by omega) (by omega))), (show jEl (σ207 51) (σ207 52) (τ 54) (τ 88) by rw [show σ207 51 = σ 51 from ((f209 51 (of_decide_eq_true rfl)).trans (f52 51 (of_decide_eq_true rfl))), show σ207 52 = σ 52 from ((f209 52 (of_decide_eq_true rfl)).trans (f52 52 (of_decide_eq_true rfl)))]; exact hr5), (show jByP (σ207 51) (σ207 52) (τ 54) by rw [show σ207 51 = σ 51 from ((f209 51 (of_decide_eq_true rfl)).trans (f52 51 (of_decide_eq_true rfl))), show σ207 52 = σ 52 from ((f209 52 (of_decide_eq_true rfl)).trans (f52 52 (of_decide_eq_true rfl)))]; exact hr6), (show jBk (σ207 48) (σ207 80) (σ207 49) (σ207 81) (σ207 55 47).toInt by rw [show σ207 48 = σ 48 from ((f209 48 (of_decide_eq_true rfl)).trans (f52 48 (of_decide_eq_true rfl))), show σ207 49 = σ 49 from ((f209 49 (of_decide_eq_true rfl)).trans (f52 49 (of_decide_eq_true rfl))), show σ207 80 = σ 80 from ((f209 80 (of_decide_eq_true rfl)).trans (f52 80 (of_decide_eq_true rfl))), show σ207 81 = σ 81 from ((f209 81 (of_decide_eq_true rfl)).trans (f52 81 (of_decide_eq_true rfl))), show (σ207 55 47).toInt = (σ 55 47).toInt from by omega]; exact hr7), (show jKd (σ207 39) (σ207 70) (σ207 55 32).toInt by rw [show σ207 39 = σ 39 from ((f209 39 (of_decide_eq_true rfl)).trans (f52 39 (of_decide_eq_true rfl))), show σ207 70 = σ 70 from ((f209 70 (of_decide_eq_true rfl)).trans (f52 70 (of_decide_eq_true rfl))), show (σ207 55 32).toInt = (σ 55 32).toInt from by omega]; exact hr8), (show jTt (σ207 42) (σ207 85) (σ207 55 55).toInt by rw [show σ207 42 = σ 42 from ((f209 42 (of_decide_eq_true rfl)).trans (f52 42 (of_decide_eq_true rfl))), show σ207 85 = σ 85 from ((f209 85 (of_decide_eq_true rfl)).trans (f52 85 (of_decide_eq_true rfl))), show (σ207 55 55).toInt = (σ 55 55).toInt from by omega]; exact hr9)⟩ hP hS (lv_sub hl [0, 1, 2, 3] rfl)
        · obtain ⟨q279, k272, k273, k274, k275, k276, k277, k278⟩ := h221
          refine lv_pop hx hb dL_law_769 rfl ?_
          refine lv_goto (tgt := 1357) hx hb dL_law_770 (of_decide_eq_true rfl) ?_
          obtain ⟨x280, ex280⟩ : ∃ y : Int32, y = x0 + 6 := ⟨_, rfl⟩
          exact by
           have tx280 : x280.toInt = x0.toInt + 6 := (jadd ex280 rfl jz_6 (by omega) (by omega)).trans (by omega)
           refine lv_iinc (v := x280) (lv' := [(3, .int x280), (2, .ref (ad 55)), (1, .ref (ad 0)), (0, .ref b)]) hx hb dL_law_1357 hl (k := 0) rfl (by rw [ex280]; rfl) (of_decide_eq_true rfl) rfl (fun ls hl => ?_)
           refine lv_goto (tgt := 18) hx hb dL_law_1360 (of_decide_eq_true rfl) ?_
           have I281 : jI2 σ207 := jI2_fr (congrFun (f209 2 (of_decide_eq_true rfl)) 0) (congrFun (f209 2 (of_decide_eq_true rfl)) 1) (congrFun (f209 2 (of_decide_eq_true rfl)) 2) (congrFun (f209 2 (of_decide_eq_true rfl)) 3) (f209 6 (of_decide_eq_true rfl)) I54
           have I282 : jI9 σ207 := jI9_fr ((congrFun (f209 9 (of_decide_eq_true rfl)) 0).trans (congrFun (f52 9 (of_decide_eq_true rfl)) 0)) ((f209 10 (of_decide_eq_true rfl)).trans (f52 10 (of_decide_eq_true rfl))) ((f209 11 (of_decide_eq_true rfl)).trans (f52 11 (of_decide_eq_true rfl))) hI9
           have I283 : jI12 σ207 := jI12_fr ((congrFun (f209 12 (of_decide_eq_true rfl)) 0).trans (congrFun (f52 12 (of_decide_eq_true rfl)) 0)) ((f209 13 (of_decide_eq_true rfl)).trans (f52 13 (of_decide_eq_true rfl))) hI12
           have I284 : jI16 σ207 := jI16_fr ((congrFun (f209 16 (of_decide_eq_true rfl)) 0).trans (congrFun (f52 16 (of_decide_eq_true rfl)) 0)) ((congrFun (f209 16 (of_decide_eq_true rfl)) 1).trans (congrFun (f52 16 (of_decide_eq_true rfl)) 1)) ((congrFun (f209 16 (of_decide_eq_true rfl)) 2).trans (congrFun (f52 16 (of_decide_eq_true rfl)) 2)) ((f209 17 (of_decide_eq_true rfl)).trans (f52 17 (of_decide_eq_true rfl))) hI16
           have I285 : jI18 σ207 := jI18_fr ((congrFun (f209 18 (of_decide_eq_true rfl)) 0).trans (congrFun (f52 18 (of_decide_eq_true rfl)) 0)) ((f209 19 (of_decide_eq_true rfl)).trans (f52 19 (of_decide_eq_true rfl))) hI18
           have I286 : jI22 σ207 := jI22_fr ((congrFun (f209 22 (of_decide_eq_true rfl)) 0).trans (congrFun (f52 22 (of_decide_eq_true rfl)) 0)) ((f209 23 (of_decide_eq_true rfl)).trans (f52 23 (of_decide_eq_true rfl))) hI22
           exact by
            have I287 : jI31 σ207 := jI31_fr ((congrFun (f209 31 (of_decide_eq_true rfl)) 8).trans (congrFun (f52 31 (of_decide_eq_true rfl)) 8)) ((f209 33 (of_decide_eq_true rfl)).trans (f52 33 (of_decide_eq_true rfl))) ((f209 36 (of_decide_eq_true rfl)).trans (f52 36 (of_decide_eq_true rfl))) hI31
            have I288 : jI38 σ207 := jI38_fr ((congrFun (f209 38 (of_decide_eq_true rfl)) 0).trans (congrFun (f52 38 (of_decide_eq_true rfl)) 0)) ((congrFun (f209 38 (of_decide_eq_true rfl)) 1).trans (congrFun (f52 38 (of_decide_eq_true rfl)) 1)) ((f209 39 (of_decide_eq_true rfl)).trans (f52 39 (of_decide_eq_true rfl))) hI38
            have I289 : jI43 σ207 := jI43_fr ((congrFun (f209 43 (of_decide_eq_true rfl)) 8).trans (congrFun (f52 43 (of_decide_eq_true rfl)) 8)) hI43
            have I290 : jI47 σ207 := jI47_fr ((congrFun (f209 47 (of_decide_eq_true rfl)) 0).trans (congrFun (f52 47 (of_decide_eq_true rfl)) 0)) ((f209 48 (of_decide_eq_true rfl)).trans (f52 48 (of_decide_eq_true rfl))) ((f209 49 (of_decide_eq_true rfl)).trans (f52 49 (of_decide_eq_true rfl))) hI47
            have I291 : jI50 σ207 := jI50_fr ((f209 52 (of_decide_eq_true rfl)).trans (f52 52 (of_decide_eq_true rfl))) hI50
            have I292 : jI102 σ207 := jI102_fr (f210 6 (of_decide_eq_true rfl)) (f209 60 (of_decide_eq_true rfl)) (f209 61 (of_decide_eq_true rfl)) I203
            have I293 : jI103 σ207 := jI103_fr ((f210 9 (of_decide_eq_true rfl)).trans (congrFun (f52 55 (of_decide_eq_true rfl)) 9)) hI103
            have I294 : jI104 σ207 := jI104_fr ((f210 10 (of_decide_eq_true rfl)).trans (congrFun (f52 55 (of_decide_eq_true rfl)) 10)) ((f210 12 (of_decide_eq_true rfl)).trans (congrFun (f52 55 (of_decide_eq_true rfl)) 12)) ((f210 13 (of_decide_eq_true rfl)).trans (congrFun (f52 55 (of_decide_eq_true rfl)) 13)) ((f209 62 (of_decide_eq_true rfl)).trans (f52 62 (of_decide_eq_true rfl))) ((f209 67 (of_decide_eq_true rfl)).trans (f52 67 (of_decide_eq_true rfl))) hI104
            have I295 : jI105 σ207 := jI105_fr ((f210 15 (of_decide_eq_true rfl)).trans (congrFun (f52 55 (of_decide_eq_true rfl)) 15)) ((f209 65 (of_decide_eq_true rfl)).trans (f52 65 (of_decide_eq_true rfl))) hI105
            have I296 : jI106 σ207 := jI106_fr ((f210 32 (of_decide_eq_true rfl)).trans (congrFun (f52 55 (of_decide_eq_true rfl)) 32)) ((f209 70 (of_decide_eq_true rfl)).trans (f52 70 (of_decide_eq_true rfl))) ((f209 71 (of_decide_eq_true rfl)).trans (f52 71 (of_decide_eq_true rfl))) ((f209 72 (of_decide_eq_true rfl)).trans (f52 72 (of_decide_eq_true rfl))) hI106
            have I297 : jI107 σ207 := jI107_fr ((f210 12 (of_decide_eq_true rfl)).trans (congrFun (f52 55 (of_decide_eq_true rfl)) 12)) ((f210 47 (of_decide_eq_true rfl)).trans (congrFun (f52 55 (of_decide_eq_true rfl)) 47)) ((f209 80 (of_decide_eq_true rfl)).trans (f52 80 (of_decide_eq_true rfl))) hI107
            have I298 : jI109 σ207 := jI109_fr ((f210 50 (of_decide_eq_true rfl)).trans (congrFun (f52 55 (of_decide_eq_true rfl)) 50)) hI109
            have I299 : jI110 σ207 := jI110_fr ((f209 86 (of_decide_eq_true rfl)).trans (f52 86 (of_decide_eq_true rfl))) ((f209 87 (of_decide_eq_true rfl)).trans (f52 87 (of_decide_eq_true rfl))) hI110
            have I300 : jI111 σ207 := jI111_fr ((f209 79 (of_decide_eq_true rfl)).trans (f52 79 (of_decide_eq_true rfl))) hI111
            have I301 : jI119 σ207 := jI119_fr ((f209 68 (of_decide_eq_true rfl)).trans (f52 68 (of_decide_eq_true rfl))) hI119
            have p302 : jKept σ207 := jKept.fr ((f209 75 (of_decide_eq_true rfl)).trans (f52 75 (of_decide_eq_true rfl))) ((f209 76 (of_decide_eq_true rfl)).trans (f52 76 (of_decide_eq_true rfl))) ((f209 77 (of_decide_eq_true rfl)).trans (f52 77 (of_decide_eq_true rfl))) hs_jKept
            have p303 : jBook σ207 := jBook.fr ((f210 47 (of_decide_eq_true rfl)).trans (congrFun (f52 55 (of_decide_eq_true rfl)) 47)) ((f210 10 (of_decide_eq_true rfl)).trans (congrFun (f52 55 (of_decide_eq_true rfl)) 10)) ((f209 81 (of_decide_eq_true rfl)).trans (f52 81 (of_decide_eq_true rfl))) hs_jBook
            have z304 : (σ207 2 0).toInt = (σ 2 0).toInt := (congrArg Int32.toInt (show σ207 2 0 = (σ 2 0) from ((congrFun (f209 2 (of_decide_eq_true rfl)) 0).trans (f53 0 (of_decide_eq_true rfl)))))
            have z305 : (σ207 55 6).toInt = (σ 55 6).toInt := (congrArg Int32.toInt (show σ207 55 6 = (σ 55 6) from ((f210 6 (of_decide_eq_true rfl)).trans (congrFun (f52 55 (of_decide_eq_true rfl)) 6))))
            have z306 : (σ207 2 2).toInt = (σ50 2 2).toInt := (congrArg Int32.toInt (show σ207 2 2 = (σ50 2 2) from (congrFun (f209 2 (of_decide_eq_true rfl)) 2)))
            have z307 : (σ207 2 3).toInt = (σ50 2 3).toInt := (congrArg Int32.toInt (show σ207 2 3 = (σ50 2 3) from (congrFun (f209 2 (of_decide_eq_true rfl)) 3)))
            have z308 : (σ207 9 0).toInt = (σ 9 0).toInt := (congrArg Int32.toInt (show σ207 9 0 = (σ 9 0) from ((congrFun (f209 9 (of_decide_eq_true rfl)) 0).trans (congrFun (f52 9 (of_decide_eq_true rfl)) 0))))
            have z309 : (σ207 55 15).toInt = (σ 55 15).toInt := (congrArg Int32.toInt (show σ207 55 15 = (σ 55 15) from ((f210 15 (of_decide_eq_true rfl)).trans (congrFun (f52 55 (of_decide_eq_true rfl)) 15))))
            have z310 : (σ207 16 0).toInt = (σ 16 0).toInt := (congrArg Int32.toInt (show σ207 16 0 = (σ 16 0) from ((congrFun (f209 16 (of_decide_eq_true rfl)) 0).trans (congrFun (f52 16 (of_decide_eq_true rfl)) 0))))
            have z311 : (σ207 55 10).toInt = (σ 55 10).toInt := (congrArg Int32.toInt (show σ207 55 10 = (σ 55 10) from ((f210 10 (of_decide_eq_true rfl)).trans (congrFun (f52 55 (of_decide_eq_true rfl)) 10))))
            have z312 : (σ207 16 1).toInt = (σ 16 1).toInt := (congrArg Int32.toInt (show σ207 16 1 = (σ 16 1) from ((congrFun (f209 16 (of_decide_eq_true rfl)) 1).trans (congrFun (f52 16 (of_decide_eq_true rfl)) 1))))
            have z313 : (σ207 55 12).toInt = (σ 55 12).toInt := (congrArg Int32.toInt (show σ207 55 12 = (σ 55 12) from ((f210 12 (of_decide_eq_true rfl)).trans (congrFun (f52 55 (of_decide_eq_true rfl)) 12))))
            have z314 : (σ207 16 2).toInt = (σ 16 2).toInt := (congrArg Int32.toInt (show σ207 16 2 = (σ 16 2) from ((congrFun (f209 16 (of_decide_eq_true rfl)) 2).trans (congrFun (f52 16 (of_decide_eq_true rfl)) 2))))
            have z315 : (σ207 55 13).toInt = (σ 55 13).toInt := (congrArg Int32.toInt (show σ207 55 13 = (σ 55 13) from ((f210 13 (of_decide_eq_true rfl)).trans (congrFun (f52 55 (of_decide_eq_true rfl)) 13))))
            have z316 : (σ207 38 0).toInt = (σ 38 0).toInt := (congrArg Int32.toInt (show σ207 38 0 = (σ 38 0) from ((congrFun (f209 38 (of_decide_eq_true rfl)) 0).trans (congrFun (f52 38 (of_decide_eq_true rfl)) 0))))
            have z317 : (σ207 55 32).toInt = (σ 55 32).toInt := (congrArg Int32.toInt (show σ207 55 32 = (σ 55 32) from ((f210 32 (of_decide_eq_true rfl)).trans (congrFun (f52 55 (of_decide_eq_true rfl)) 32))))
            have z318 : (σ207 38 1).toInt = (σ 38 1).toInt := (congrArg Int32.toInt (show σ207 38 1 = (σ 38 1) from ((congrFun (f209 38 (of_decide_eq_true rfl)) 1).trans (congrFun (f52 38 (of_decide_eq_true rfl)) 1))))
            have z319 : (σ207 55 55).toInt = (σ 55 55).toInt := (congrArg Int32.toInt (show σ207 55 55 = (σ 55 55) from ((f210 55 (of_decide_eq_true rfl)).trans (congrFun (f52 55 (of_decide_eq_true rfl)) 55))))
            have z320 : (σ207 47 0).toInt = (σ 47 0).toInt := (congrArg Int32.toInt (show σ207 47 0 = (σ 47 0) from ((congrFun (f209 47 (of_decide_eq_true rfl)) 0).trans (congrFun (f52 47 (of_decide_eq_true rfl)) 0))))
            have z321 : (σ207 55 47).toInt = (σ 55 47).toInt := (congrArg Int32.toInt (show σ207 55 47 = (σ 55 47) from ((f210 47 (of_decide_eq_true rfl)).trans (congrFun (f52 55 (of_decide_eq_true rfl)) 47))))
            have z322 : (σ207 55 30).toInt = (σ 55 30).toInt := (congrArg Int32.toInt (show σ207 55 30 = (σ 55 30) from ((f210 30 (of_decide_eq_true rfl)).trans (congrFun (f52 55 (of_decide_eq_true rfl)) 30))))
            have z323 : (σ207 55 31).toInt = (σ 55 31).toInt := (congrArg Int32.toInt (show σ207 55 31 = (σ 55 31) from ((f210 31 (of_decide_eq_true rfl)).trans (congrFun (f52 55 (of_decide_eq_true rfl)) 31))))
            obtain ⟨q324, w326, e328, c330⟩ := k200
            obtain ⟨q325, w327, e329, c331⟩ := k278
            rw [show σ50 56 = σ 56 from (f52 56 (of_decide_eq_true rfl)), show σ50 57 = σ 57 from (f52 57 (of_decide_eq_true rfl)), show σ50 58 = σ 58 from (f52 58 (of_decide_eq_true rfl)), show σ50 59 = σ 59 from (f52 59 (of_decide_eq_true rfl)), show r208 = r51 from jsame (rfl : r208.toInt = r208.toInt) (rfl : r51.toInt = r51.toInt) (by omega), show (σ50 55 4).toInt = (σ 55 4).toInt from by omega] at c331
            exact by
             have k332 := hr0.chg (by omega) (by omega) c330 c331 (by omega) (by omega) (by omega) (by omega)
             have e328 := k332.2.1
             have e329 := k332.2.2
             exact by exact ih x280 σ207 τ _ _ ls (by have h9 := tx280; omega) ⟨I281, I282, I283, I284, I285, I286, I287, I288, I289, I290, I291, I211, I292, I293, I294, I295, I296, I297, I298, I299, I300, I301, p302, p303, (by omega), (by omega), (by omega), (by omega), (by omega), (by omega), (by omega), (by omega), (by omega), (by omega), (by omega), (by omega), (show jNumP (σ207 3) (σ207 56) (σ207 6) (σ207 57) (σ207 7) (σ207 58) (σ207 8) (σ207 59) (σ207 55 6).toInt (σ207 55 4).toInt by rw [show σ207 3 = σ50 3 from (f209 3 (of_decide_eq_true rfl)), show σ207 6 = σ50 6 from (f209 6 (of_decide_eq_true rfl)), show σ207 7 = σ50 7 from (f209 7 (of_decide_eq_true rfl)), show σ207 8 = σ50 8 from (f209 8 (of_decide_eq_true rfl)), show (σ207 55 6).toInt = (σ 55 6).toInt from by omega]; exact k332.1), (hr1.chg c331 (by omega) (by omega) (fun x y => by omega)), (show jTp (σ207 10) (σ207 63) (σ207 55 15).toInt by rw [show σ207 10 = σ 10 from ((f209 10 (of_decide_eq_true rfl)).trans (f52 10 (of_decide_eq_true rfl))), show σ207 63 = σ 63 from ((f209 63 (of_decide_eq_true rfl)).trans (f52 63 (of_decide_eq_true rfl)))]; exact hr2.le (by omega)), (show jSo (σ207 17) (σ207 62) (σ207 16 0).toInt by rw [show σ207 17 = σ 17 from ((f209 17 (of_decide_eq_true rfl)).trans (f52 17 (of_decide_eq_true rfl))), show σ207 62 = σ 62 from ((f209 62 (of_decide_eq_true rfl)).trans (f52 62 (of_decide_eq_true rfl))), show (σ207 16 0).toInt = (σ 16 0).toInt from by omega]; exact hr3), (show jShP (σ207 51) (σ207 52) (σ207 53) (σ207 86) (σ207 87) (σ207 55 32).toInt by rw [show σ207 51 = σ 51 from ((f209 51 (of_decide_eq_true rfl)).trans (f52 51 (of_decide_eq_true rfl))), show σ207 52 = σ 52 from ((f209 52 (of_decide_eq_true rfl)).trans (f52 52 (of_decide_eq_true rfl))), show σ207 53 = σ 53 from ((f209 53 (of_decide_eq_true rfl)).trans (f52 53 (of_decide_eq_true rfl))), show σ207 86 = σ 86 from ((f209 86 (of_decide_eq_true rfl)).trans (f52 86 (of_decide_eq_true rfl))), show σ207 87 = σ 87 from ((f209 87 (of_decide_eq_true rfl)).trans (f52 87 (of_decide_eq_true rfl)))]; exact (hr4.up (by omega) (by omega))), (show jEl (σ207 51) (σ207 52) (τ 54) (τ 88) by rw [show σ207 51 = σ 51 from ((f209 51 (of_decide_eq_true rfl)).trans (f52 51 (of_decide_eq_true rfl))), show σ207 52 = σ 52 from ((f209 52 (of_decide_eq_true rfl)).trans (f52 52 (of_decide_eq_true rfl)))]; exact hr5), (show jByP (σ207 51) (σ207 52) (τ 54) by rw [show σ207 51 = σ 51 from ((f209 51 (of_decide_eq_true rfl)).trans (f52 51 (of_decide_eq_true rfl))), show σ207 52 = σ 52 from ((f209 52 (of_decide_eq_true rfl)).trans (f52 52 (of_decide_eq_true rfl)))]; exact hr6), (show jBk (σ207 48) (σ207 80) (σ207 49) (σ207 81) (σ207 55 47).toInt by rw [show σ207 48 = σ 48 from ((f209 48 (of_decide_eq_true rfl)).trans (f52 48 (of_decide_eq_true rfl))), show σ207 49 = σ 49 from ((f209 49 (of_decide_eq_true rfl)).trans (f52 49 (of_decide_eq_true rfl))), show σ207 80 = σ 80 from ((f209 80 (of_decide_eq_true rfl)).trans (f52 80 (of_decide_eq_true rfl))), show σ207 81 = σ 81 from ((f209 81 (of_decide_eq_true rfl)).trans (f52 81 (of_decide_eq_true rfl))), show (σ207 55 47).toInt = (σ 55 47).toInt from by omega]; exact hr7), (show jKd (σ207 39) (σ207 70) (σ207 55 32).toInt by rw [show σ207 39 = σ 39 from ((f209 39 (of_decide_eq_true rfl)).trans (f52 39 (of_decide_eq_true rfl))), show σ207 70 = σ 70 from ((f209 70 (of_decide_eq_true rfl)).trans (f52 70 (of_decide_eq_true rfl))), show (σ207 55 32).toInt = (σ 55 32).toInt from by omega]; exact hr8), (show jTt (σ207 42) (σ207 85) (σ207 55 55).toInt by rw [show σ207 42 = σ 42 from ((f209 42 (of_decide_eq_true rfl)).trans (f52 42 (of_decide_eq_true rfl))), show σ207 85 = σ 85 from ((f209 85 (of_decide_eq_true rfl)).trans (f52 85 (of_decide_eq_true rfl))), show (σ207 55 55).toInt = (σ 55 55).toInt from by omega]; exact hr9)⟩ hP hS (lv_sub hl [0, 1, 2, 3] rfl)
