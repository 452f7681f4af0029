set_option maxHeartbeats 4000000 in
set_option maxRecDepth 100000 in
theorem law_case_0 {p : Program} {e : Env} {s : State} {m : MethodId} {below : List Frame} {meth : Method} {c : Code} (l : Launch) {b L : Nat} {xs : Nat → Int32} {D : va_G} {cI cL : ClassId} {ad zz : Nat → Nat} (C0 : lw_At p s m meth c b L xs) (hJ : jD ad) (hA : ∀ q, jA ad q → s.heap.size ≤ q) (hK : jK D cI cL s) (hZ : jZ zz (fun q : Nat => s.heap.size ≤ q) s s.heap) {x0 : Int32} (hx0 : 0 ≤ x0.toInt) (hxL : x0.toInt + 6 ≤ (L : Int)) (hL : L ≤ 384) {σ : Nat → Nat → Int32} {τ : Nat → Nat → Int64} {H : Heap} {locs : List Loc} (hS : va_S (fun q : Nat => s.heap.size ≤ q) s.heap H locs) {ls : Array Slot} (hAll : jAll σ τ) (hP : jH D cI cL ad σ τ H) (hl : lv_has ls 4 [(3, .int x0), (2, .ref (ad 55)), (1, .ref (ad 0)), (0, .ref b)]) (ih : ∀ (x1 : Int32) (σ : Nat → Nat → Int32) (τ : Nat → Nat → Int64) (H : Heap) (locs : List Loc) (ls : Array Slot), x1.toInt = x0.toInt + 6 → jAll σ τ → jH D cI cL ad σ τ H → va_S (fun q : Nat => s.heap.size ≤ q) s.heap H locs → lv_has ls 4 [(3, .int x1), (2, .ref (ad 55)), (1, .ref (ad 0)), (0, .ref b)] → W p l e room_1 s m #[Value.ref b] below meth c H locs 90 348600 (lw_Z below #[Value.ref b] s) (F0 m 18 ls [])) : W p l e room_1 s m #[Value.ref b] below meth c H locs 90 348600 (lw_Z below #[Value.ref b] s) (F0 m 196 ls []) := by
  obtain ⟨hx, hb, hr, hml, hown, hts0, hX, hbl, hlocks, hgv⟩ := C0
  have hts : ∀ w ∈ wsL_law, w.before #[Value.ref b] s = true := fun w h => hts0 w (wsL_law_in w h)
  have hbA : ¬ (fun q : Nat => s.heap.size ≤ q) b := Nat.not_le.mpr hbl
  have hown : s.vm.findClass RL = some m.cls := hown
  obtain ⟨hI2, hI9, hI12, hI16, hI18, hI22, hI31, hI38, hI43, hI47, hI50, hI101, hI102, hI103, hI104, hI105, hI106, hI107, hI109, hI110, hI111, hI119, hs_jKept, hs_jBook, ht0, ht1, ht2, ht3, hr0, hr1⟩ := hAll
  have hL9 : (L : Int) ≤ 384 := by omega
  obtain ⟨i1, w2, w3⟩ : (0 ≤ (σ 9 0).toInt ∧ (σ 9 0).toInt ≤ 80) ∧ (∀ k : Nat, k < 80 → 0 ≤ (σ 10 k).toInt ∧ (σ 10 k).toInt ≤ 255) ∧ (∀ k : Nat, k < 8 → 0 ≤ (σ 11 k).toInt ∧ (σ 11 k).toInt ≤ 3) := id hI9
  obtain ⟨i4, i5, i6, w7⟩ : (1 ≤ (σ 16 0).toInt ∧ (σ 16 0).toInt ≤ 8) ∧ (1 ≤ (σ 16 1).toInt ∧ (σ 16 1).toInt ≤ 12) ∧ (0 ≤ (σ 16 2).toInt ∧ (σ 16 2).toInt ≤ 999) ∧ (∀ k : Nat, k < 8 → 0 ≤ (σ 17 k).toInt ∧ (σ 17 k).toInt ≤ 3) := id hI16
  obtain ⟨i8, i9, i10, w11, w12⟩ : (1 ≤ (σ 55 10).toInt ∧ (σ 55 10).toInt ≤ 8) ∧ (1 ≤ (σ 55 12).toInt ∧ (σ 55 12).toInt ≤ 12) ∧ (0 ≤ (σ 55 13).toInt ∧ (σ 55 13).toInt ≤ 999) ∧ (∀ k : Nat, k < 8 → 0 ≤ (σ 62 k).toInt ∧ (σ 62 k).toInt ≤ 3) ∧ (∀ k : Nat, k < 8 → 0 ≤ (σ 67 k).toInt ∧ (σ 67 k).toInt ≤ 3) := id hI104
  obtain ⟨i13, w14⟩ : (0 ≤ (σ 55 15).toInt ∧ (σ 55 15).toInt ≤ 80) ∧ (∀ k : Nat, k < 2 → (-1) ≤ (σ 65 k).toInt ∧ (σ 65 k).toInt ≤ 80) := id hI105
  refine lv_aload_n hx hb dL_law_196 rfl (lv_at hl 2 rfl) ?_
  refine lv_aload_n hx hb dL_law_197 rfl (lv_at hl 3 rfl) ?_
  refine lv_iload_n hx hb dL_law_198 rfl (lv_at hl 0 rfl) ?_
  refine lv_iconst (v := 1) hx hb dL_law_199 (of_decide_eq_true rfl) ?_
  have g15 := jrg (rfl : x0.toInt = x0.toInt)
  refine lv_iadd hx hb dL_law_200 ?_
  refine lv_topi (fun x16 ex16 => ?_)
  exact by
   have tx16 : x16.toInt = x0.toInt + 1 := (jadd ex16 rfl jz_1 (by omega) (by omega)).trans (by omega)
   refine va_sld hx hb hX hbl hbA hS (jin tx16 (by omega) (by omega)) dL_law_201 ?_
   have g17 := jrg (rfl : (xs x16.toNatClampNeg).toInt = (xs x16.toNatClampNeg).toInt)
   refine lv_aload_n hx hb dL_law_202 rfl (lv_at hl 3 rfl) ?_
   refine lv_iload_n hx hb dL_law_203 rfl (lv_at hl 0 rfl) ?_
   refine lv_iconst (v := 2) hx hb dL_law_204 (of_decide_eq_true rfl) ?_
   refine lv_iadd hx hb dL_law_205 ?_
   refine lv_topi (fun x18 ex18 => ?_)
   have tx18 : x18.toInt = x0.toInt + 2 := (jadd ex18 rfl jz_2 (by omega) (by omega)).trans (by omega)
   exact by
    refine va_sld hx hb hX hbl hbA hS (jin tx18 (by omega) (by omega)) dL_law_206 ?_
    have g19 := jrg (rfl : (xs x18.toNatClampNeg).toInt = (xs x18.toNatClampNeg).toInt)
    refine lv_aload_n hx hb dL_law_207 rfl (lv_at hl 3 rfl) ?_
    refine lv_iload_n hx hb dL_law_208 rfl (lv_at hl 0 rfl) ?_
    refine lv_iconst (v := 3) hx hb dL_law_209 (of_decide_eq_true rfl) ?_
    refine lv_iadd hx hb dL_law_210 ?_
    refine lv_topi (fun x20 ex20 => ?_)
    have tx20 : x20.toInt = x0.toInt + 3 := (jadd ex20 rfl jz_3 (by omega) (by omega)).trans (by omega)
    refine va_sld hx hb hX hbl hbA hS (jin tx20 (by omega) (by omega)) dL_law_211 ?_
    exact by
     have g21 := jrg (rfl : (xs x20.toNatClampNeg).toInt = (xs x20.toNatClampNeg).toInt)
     refine jcallV (As := [.int (xs x16.toNatClampNeg), .int (xs x18.toNatClampNeg), .int (xs x20.toNatClampNeg)]) (rest := []) ⟨hx, hb, hml, hown, hts⟩ hK hP hA hS hZ (c_X11_bowler l D cI cL ad zz hJ σ τ (xs x16.toNatClampNeg) ((xs x16.toNatClampNeg).toInt) rfl (xs x18.toNatClampNeg) ((xs x18.toNatClampNeg).toInt) rfl (xs x20.toNatClampNeg) ((xs x20.toNatClampNeg).toInt) rfl hI2) cw_RL_13 (jc_0 cI cL ad σ τ) rfl ⟨Nat.le_of_ble_eq_true rfl, Nat.le_of_ble_eq_true rfl⟩ rfl rfl rfl hl.1 rfl (Nat.le_of_ble_eq_true rfl) dL_law_212 ⟨Nat.le_of_ble_eq_true rfl, Nat.le_of_ble_eq_true rfl⟩ (fun r23 σ22 τ22 H locs h22 hP hS => ?_)
     obtain ⟨rfl, f24, f25, I26, h22⟩ := h22
     rcases h22 with h28 | h29 | h30
     · obtain ⟨q34, k31, k32, k33⟩ := h28
       have q34 := q34.symm
       subst q34
       refine lv_pop hx hb dL_law_215 rfl ?_
       refine lv_aload_n hx hb dL_law_216 rfl (lv_at hl 1 rfl) ?_
       refine lv_aload_n hx hb dL_law_217 rfl (lv_at hl 3 rfl) ?_
       refine lv_iload_n hx hb dL_law_218 rfl (lv_at hl 0 rfl) ?_
       refine lv_iconst (v := 1) hx hb dL_law_219 (of_decide_eq_true rfl) ?_
       refine lv_iadd hx hb dL_law_220 ?_
       refine jtopr ex16.symm ?_
       exact by
        refine va_sld hx hb hX hbl hbA hS (jin tx16 (by omega) (by omega)) dL_law_221 ?_
        refine lv_aload_n hx hb dL_law_222 rfl (lv_at hl 3 rfl) ?_
        refine lv_iload_n hx hb dL_law_223 rfl (lv_at hl 0 rfl) ?_
        refine lv_iconst (v := 2) hx hb dL_law_224 (of_decide_eq_true rfl) ?_
        refine lv_iadd hx hb dL_law_225 ?_
        refine jtopr ex18.symm ?_
        refine va_sld hx hb hX hbl hbA hS (jin tx18 (by omega) (by omega)) dL_law_226 ?_
        refine lv_aload_n hx hb dL_law_227 rfl (lv_at hl 3 rfl) ?_
        refine lv_iload_n hx hb dL_law_228 rfl (lv_at hl 0 rfl) ?_
        exact by
         refine lv_iconst (v := 3) hx hb dL_law_229 (of_decide_eq_true rfl) ?_
         refine lv_iadd hx hb dL_law_230 ?_
         refine jtopr ex20.symm ?_
         refine va_sld hx hb hX hbl hbA hS (jin tx20 (by omega) (by omega)) dL_law_231 ?_
         have I35 : jI101 σ22 := jI101_fr (congrFun (f24 55 (of_decide_eq_true rfl)) 4) (congrFun (f24 55 (of_decide_eq_true rfl)) 5) (f24 56 (of_decide_eq_true rfl)) (f24 57 (of_decide_eq_true rfl)) (f24 58 (of_decide_eq_true rfl)) (f24 59 (of_decide_eq_true rfl)) hI101
         have I36 : jI102 σ22 := jI102_fr (congrFun (f24 55 (of_decide_eq_true rfl)) 6) (f24 60 (of_decide_eq_true rfl)) (f24 61 (of_decide_eq_true rfl)) hI102
         have z37 : (σ22 55 6).toInt = (σ 55 6).toInt := (congrArg Int32.toInt (show σ22 55 6 = (σ 55 6) from (congrFun (f24 55 (of_decide_eq_true rfl)) 6)))
         refine jcallV (As := [.int (xs x16.toNatClampNeg), .int (xs x18.toNatClampNeg), .int (xs x20.toNatClampNeg)]) (rest := []) ⟨hx, hb, hml, hown, hts⟩ hK hP hA hS hZ (c_X12_bowler l D cI cL ad zz hJ σ22 τ (xs x16.toNatClampNeg) ((xs x16.toNatClampNeg).toInt) rfl (xs x18.toNatClampNeg) ((xs x18.toNatClampNeg).toInt) rfl (xs x20.toNatClampNeg) ((xs x20.toNatClampNeg).toInt) rfl I35 I36) cw_RL_17 (jc_55 cI cL ad σ22 τ) rfl ⟨Nat.le_of_ble_eq_true rfl, Nat.le_of_ble_eq_true rfl⟩ rfl rfl rfl hl.1 rfl (Nat.le_of_ble_eq_true rfl) dL_law_232 ⟨Nat.le_of_ble_eq_true rfl, Nat.le_of_ble_eq_true rfl⟩ (fun r39 σ38 τ38 H locs h38 hP hS => ?_)
         obtain ⟨rfl, f40, f41, I42, I43, h38⟩ := h38
         exact by
          rcases h38 with h45 | h46 | h47
          · obtain ⟨q51, k48, k49, k50⟩ := h45
            have q51 := q51.symm
            subst q51
            refine lv_pop hx hb dL_law_235 rfl ?_
            refine lv_goto (tgt := 1357) hx hb dL_law_236 (of_decide_eq_true rfl) ?_
            obtain ⟨x52, ex52⟩ : ∃ y : Int32, y = x0 + 6 := ⟨_, rfl⟩
            have tx52 : x52.toInt = x0.toInt + 6 := (jadd ex52 rfl jz_6 (by omega) (by omega)).trans (by omega)
            refine lv_iinc (v := x52) (lv' := [(3, .int x52), (2, .ref (ad 55)), (1, .ref (ad 0)), (0, .ref b)]) hx hb dL_law_1357 hl (k := 0) rfl (by rw [ex52]; rfl) (of_decide_eq_true rfl) rfl (fun ls hl => ?_)
            exact by
             refine lv_goto (tgt := 18) hx hb dL_law_1360 (of_decide_eq_true rfl) ?_
             have I53 : jI2 σ38 := jI2_fr (congrFun (f40 2 (of_decide_eq_true rfl)) 0) (congrFun (f40 2 (of_decide_eq_true rfl)) 1) (congrFun (f40 2 (of_decide_eq_true rfl)) 2) (congrFun (f40 2 (of_decide_eq_true rfl)) 3) (f40 6 (of_decide_eq_true rfl)) I26
             have I54 : jI9 σ38 := jI9_fr ((congrFun (f40 9 (of_decide_eq_true rfl)) 0).trans (congrFun (f24 9 (of_decide_eq_true rfl)) 0)) ((f40 10 (of_decide_eq_true rfl)).trans (f24 10 (of_decide_eq_true rfl))) ((f40 11 (of_decide_eq_true rfl)).trans (f24 11 (of_decide_eq_true rfl))) hI9
             have I55 : jI12 σ38 := jI12_fr ((congrFun (f40 12 (of_decide_eq_true rfl)) 0).trans (congrFun (f24 12 (of_decide_eq_true rfl)) 0)) ((f40 13 (of_decide_eq_true rfl)).trans (f24 13 (of_decide_eq_true rfl))) hI12
             have I56 : jI16 σ38 := jI16_fr ((congrFun (f40 16 (of_decide_eq_true rfl)) 0).trans (congrFun (f24 16 (of_decide_eq_true rfl)) 0)) ((congrFun (f40 16 (of_decide_eq_true rfl)) 1).trans (congrFun (f24 16 (of_decide_eq_true rfl)) 1)) ((congrFun (f40 16 (of_decide_eq_true rfl)) 2).trans (congrFun (f24 16 (of_decide_eq_true rfl)) 2)) ((f40 17 (of_decide_eq_true rfl)).trans (f24 17 (of_decide_eq_true rfl))) hI16
             have I57 : jI18 σ38 := jI18_fr ((congrFun (f40 18 (of_decide_eq_true rfl)) 0).trans (congrFun (f24 18 (of_decide_eq_true rfl)) 0)) ((f40 19 (of_decide_eq_true rfl)).trans (f24 19 (of_decide_eq_true rfl))) hI18
             have I58 : jI22 σ38 := jI22_fr ((congrFun (f40 22 (of_decide_eq_true rfl)) 0).trans (congrFun (f24 22 (of_decide_eq_true rfl)) 0)) ((f40 23 (of_decide_eq_true rfl)).trans (f24 23 (of_decide_eq_true rfl))) hI22
             have I59 : jI31 σ38 := jI31_fr ((congrFun (f40 31 (of_decide_eq_true rfl)) 8).trans (congrFun (f24 31 (of_decide_eq_true rfl)) 8)) ((f40 33 (of_decide_eq_true rfl)).trans (f24 33 (of_decide_eq_true rfl))) ((f40 36 (of_decide_eq_true rfl)).trans (f24 36 (of_decide_eq_true rfl))) hI31
             have I60 : jI38 σ38 := jI38_fr ((congrFun (f40 38 (of_decide_eq_true rfl)) 0).trans (congrFun (f24 38 (of_decide_eq_true rfl)) 0)) ((congrFun (f40 38 (of_decide_eq_true rfl)) 1).trans (congrFun (f24 38 (of_decide_eq_true rfl)) 1)) ((f40 39 (of_decide_eq_true rfl)).trans (f24 39 (of_decide_eq_true rfl))) hI38
             have I61 : jI43 σ38 := jI43_fr ((congrFun (f40 43 (of_decide_eq_true rfl)) 8).trans (congrFun (f24 43 (of_decide_eq_true rfl)) 8)) hI43
             have I62 : jI47 σ38 := jI47_fr ((congrFun (f40 47 (of_decide_eq_true rfl)) 0).trans (congrFun (f24 47 (of_decide_eq_true rfl)) 0)) ((f40 48 (of_decide_eq_true rfl)).trans (f24 48 (of_decide_eq_true rfl))) ((f40 49 (of_decide_eq_true rfl)).trans (f24 49 (of_decide_eq_true rfl))) hI47
             have I63 : jI50 σ38 := jI50_fr ((f40 52 (of_decide_eq_true rfl)).trans (f24 52 (of_decide_eq_true rfl))) hI50
             have I64 : jI103 σ38 := jI103_fr ((f41 9 (of_decide_eq_true rfl)).trans (congrFun (f24 55 (of_decide_eq_true rfl)) 9)) hI103
             have I65 : jI104 σ38 := jI104_fr ((f41 10 (of_decide_eq_true rfl)).trans (congrFun (f24 55 (of_decide_eq_true rfl)) 10)) ((f41 12 (of_decide_eq_true rfl)).trans (congrFun (f24 55 (of_decide_eq_true rfl)) 12)) ((f41 13 (of_decide_eq_true rfl)).trans (congrFun (f24 55 (of_decide_eq_true rfl)) 13)) ((f40 62 (of_decide_eq_true rfl)).trans (f24 62 (of_decide_eq_true rfl))) ((f40 67 (of_decide_eq_true rfl)).trans (f24 67 (of_decide_eq_true rfl))) hI104
             have I66 : jI105 σ38 := jI105_fr ((f41 15 (of_decide_eq_true rfl)).trans (congrFun (f24 55 (of_decide_eq_true rfl)) 15)) ((f40 65 (of_decide_eq_true rfl)).trans (f24 65 (of_decide_eq_true rfl))) hI105
             have I67 : jI106 σ38 := jI106_fr ((f41 32 (of_decide_eq_true rfl)).trans (congrFun (f24 55 (of_decide_eq_true rfl)) 32)) ((f40 70 (of_decide_eq_true rfl)).trans (f24 70 (of_decide_eq_true rfl))) ((f40 71 (of_decide_eq_true rfl)).trans (f24 71 (of_decide_eq_true rfl))) ((f40 72 (of_decide_eq_true rfl)).trans (f24 72 (of_decide_eq_true rfl))) hI106
             have I68 : jI107 σ38 := jI107_fr ((f41 12 (of_decide_eq_true rfl)).trans (congrFun (f24 55 (of_decide_eq_true rfl)) 12)) ((f41 47 (of_decide_eq_true rfl)).trans (congrFun (f24 55 (of_decide_eq_true rfl)) 47)) ((f40 80 (of_decide_eq_true rfl)).trans (f24 80 (of_decide_eq_true rfl))) hI107
             have I69 : jI109 σ38 := jI109_fr ((f41 50 (of_decide_eq_true rfl)).trans (congrFun (f24 55 (of_decide_eq_true rfl)) 50)) hI109
             have I70 : jI110 σ38 := jI110_fr ((f40 86 (of_decide_eq_true rfl)).trans (f24 86 (of_decide_eq_true rfl))) ((f40 87 (of_decide_eq_true rfl)).trans (f24 87 (of_decide_eq_true rfl))) hI110
             have I71 : jI111 σ38 := jI111_fr ((f40 79 (of_decide_eq_true rfl)).trans (f24 79 (of_decide_eq_true rfl))) hI111
             have I72 : jI119 σ38 := jI119_fr ((f40 68 (of_decide_eq_true rfl)).trans (f24 68 (of_decide_eq_true rfl))) hI119
             have p73 : jKept σ38 := jKept.fr ((f40 75 (of_decide_eq_true rfl)).trans (f24 75 (of_decide_eq_true rfl))) ((f40 76 (of_decide_eq_true rfl)).trans (f24 76 (of_decide_eq_true rfl))) ((f40 77 (of_decide_eq_true rfl)).trans (f24 77 (of_decide_eq_true rfl))) hs_jKept
             have p74 : jBook σ38 := jBook.fr ((f41 47 (of_decide_eq_true rfl)).trans (congrFun (f24 55 (of_decide_eq_true rfl)) 47)) ((f41 10 (of_decide_eq_true rfl)).trans (congrFun (f24 55 (of_decide_eq_true rfl)) 10)) ((f40 81 (of_decide_eq_true rfl)).trans (f24 81 (of_decide_eq_true rfl))) hs_jBook
             have z75 : (σ38 9 0).toInt = (σ 9 0).toInt := (congrArg Int32.toInt (show σ38 9 0 = (σ 9 0) from ((congrFun (f40 9 (of_decide_eq_true rfl)) 0).trans (congrFun (f24 9 (of_decide_eq_true rfl)) 0))))
             have z76 : (σ38 55 15).toInt = (σ 55 15).toInt := (congrArg Int32.toInt (show σ38 55 15 = (σ 55 15) from ((f41 15 (of_decide_eq_true rfl)).trans (congrFun (f24 55 (of_decide_eq_true rfl)) 15))))
             have z77 : (σ38 16 0).toInt = (σ 16 0).toInt := (congrArg Int32.toInt (show σ38 16 0 = (σ 16 0) from ((congrFun (f40 16 (of_decide_eq_true rfl)) 0).trans (congrFun (f24 16 (of_decide_eq_true rfl)) 0))))
             have z78 : (σ38 55 10).toInt = (σ 55 10).toInt := (congrArg Int32.toInt (show σ38 55 10 = (σ 55 10) from ((f41 10 (of_decide_eq_true rfl)).trans (congrFun (f24 55 (of_decide_eq_true rfl)) 10))))
             have z79 : (σ38 16 1).toInt = (σ 16 1).toInt := (congrArg Int32.toInt (show σ38 16 1 = (σ 16 1) from ((congrFun (f40 16 (of_decide_eq_true rfl)) 1).trans (congrFun (f24 16 (of_decide_eq_true rfl)) 1))))
             have z80 : (σ38 55 12).toInt = (σ 55 12).toInt := (congrArg Int32.toInt (show σ38 55 12 = (σ 55 12) from ((f41 12 (of_decide_eq_true rfl)).trans (congrFun (f24 55 (of_decide_eq_true rfl)) 12))))
             have z81 : (σ38 16 2).toInt = (σ 16 2).toInt := (congrArg Int32.toInt (show σ38 16 2 = (σ 16 2) from ((congrFun (f40 16 (of_decide_eq_true rfl)) 2).trans (congrFun (f24 16 (of_decide_eq_true rfl)) 2))))
             have z82 : (σ38 55 13).toInt = (σ 55 13).toInt := (congrArg Int32.toInt (show σ38 55 13 = (σ 55 13) from ((f41 13 (of_decide_eq_true rfl)).trans (congrFun (f24 55 (of_decide_eq_true rfl)) 13))))
             exact by exact ih x52 σ38 τ _ _ ls (by have h9 := tx52; omega) ⟨I53, I54, I55, I56, I57, I58, I59, I60, I61, I62, I63, I42, I43, I64, I65, I66, I67, I68, I69, I70, I71, I72, p73, p74, (by omega), (by omega), (by omega), (by omega), (show jTp (σ38 10) (σ38 63) (σ38 55 15).toInt by rw [show σ38 10 = σ 10 from ((f40 10 (of_decide_eq_true rfl)).trans (f24 10 (of_decide_eq_true rfl))), show σ38 63 = σ 63 from ((f40 63 (of_decide_eq_true rfl)).trans (f24 63 (of_decide_eq_true rfl)))]; exact hr0.le (by omega)), (show jSo (σ38 17) (σ38 62) (σ38 16 0).toInt by rw [show σ38 17 = σ 17 from ((f40 17 (of_decide_eq_true rfl)).trans (f24 17 (of_decide_eq_true rfl))), show σ38 62 = σ 62 from ((f40 62 (of_decide_eq_true rfl)).trans (f24 62 (of_decide_eq_true rfl))), show (σ38 16 0).toInt = (σ 16 0).toInt from by omega]; exact hr1)⟩ hP hS (lv_sub hl [0, 1, 2, 3] rfl)
          · obtain ⟨q89, k83, k84, k85, k86, k87, k88⟩ := h46
            exact absurd (by omega : False) id
          · obtain ⟨q97, k90, k91, k92, k93, k94, k95, k96⟩ := h47
            exact absurd (by omega : False) id
     · obtain ⟨q104, k98, k99, k100, k101, k102, k103⟩ := h29
       have q104 := q104.symm
       subst q104
       refine lv_pop hx hb dL_law_215 rfl ?_
       refine lv_aload_n hx hb dL_law_216 rfl (lv_at hl 1 rfl) ?_
       refine lv_aload_n hx hb dL_law_217 rfl (lv_at hl 3 rfl) ?_
       refine lv_iload_n hx hb dL_law_218 rfl (lv_at hl 0 rfl) ?_
       refine lv_iconst (v := 1) hx hb dL_law_219 (of_decide_eq_true rfl) ?_
       refine lv_iadd hx hb dL_law_220 ?_
       refine jtopr ex16.symm ?_
       exact by
        refine va_sld hx hb hX hbl hbA hS (jin tx16 (by omega) (by omega)) dL_law_221 ?_
        refine lv_aload_n hx hb dL_law_222 rfl (lv_at hl 3 rfl) ?_
        refine lv_iload_n hx hb dL_law_223 rfl (lv_at hl 0 rfl) ?_
        refine lv_iconst (v := 2) hx hb dL_law_224 (of_decide_eq_true rfl) ?_
        refine lv_iadd hx hb dL_law_225 ?_
        refine jtopr ex18.symm ?_
        refine va_sld hx hb hX hbl hbA hS (jin tx18 (by omega) (by omega)) dL_law_226 ?_
        refine lv_aload_n hx hb dL_law_227 rfl (lv_at hl 3 rfl) ?_
        refine lv_iload_n hx hb dL_law_228 rfl (lv_at hl 0 rfl) ?_
        exact by
         refine lv_iconst (v := 3) hx hb dL_law_229 (of_decide_eq_true rfl) ?_
         refine lv_iadd hx hb dL_law_230 ?_
         refine jtopr ex20.symm ?_
         refine va_sld hx hb hX hbl hbA hS (jin tx20 (by omega) (by omega)) dL_law_231 ?_
         have I105 : jI101 σ22 := jI101_fr (congrFun (f24 55 (of_decide_eq_true rfl)) 4) (congrFun (f24 55 (of_decide_eq_true rfl)) 5) (f24 56 (of_decide_eq_true rfl)) (f24 57 (of_decide_eq_true rfl)) (f24 58 (of_decide_eq_true rfl)) (f24 59 (of_decide_eq_true rfl)) hI101
         have I106 : jI102 σ22 := jI102_fr (congrFun (f24 55 (of_decide_eq_true rfl)) 6) (f24 60 (of_decide_eq_true rfl)) (f24 61 (of_decide_eq_true rfl)) hI102
         have z107 : (σ22 55 6).toInt = (σ 55 6).toInt := (congrArg Int32.toInt (show σ22 55 6 = (σ 55 6) from (congrFun (f24 55 (of_decide_eq_true rfl)) 6)))
         refine jcallV (As := [.int (xs x16.toNatClampNeg), .int (xs x18.toNatClampNeg), .int (xs x20.toNatClampNeg)]) (rest := []) ⟨hx, hb, hml, hown, hts⟩ hK hP hA hS hZ (c_X12_bowler l D cI cL ad zz hJ σ22 τ (xs x16.toNatClampNeg) ((xs x16.toNatClampNeg).toInt) rfl (xs x18.toNatClampNeg) ((xs x18.toNatClampNeg).toInt) rfl (xs x20.toNatClampNeg) ((xs x20.toNatClampNeg).toInt) rfl I105 I106) cw_RL_17 (jc_55 cI cL ad σ22 τ) rfl ⟨Nat.le_of_ble_eq_true rfl, Nat.le_of_ble_eq_true rfl⟩ rfl rfl rfl hl.1 rfl (Nat.le_of_ble_eq_true rfl) dL_law_232 ⟨Nat.le_of_ble_eq_true rfl, Nat.le_of_ble_eq_true rfl⟩ (fun r109 σ108 τ108 H locs h108 hP hS => ?_)
         obtain ⟨rfl, f110, f111, I112, I113, h108⟩ := h108
         exact by
          rcases h108 with h115 | h116 | h117
          · obtain ⟨q121, k118, k119, k120⟩ := h115
            exact absurd (by omega : False) id
          · obtain ⟨q128, k122, k123, k124, k125, k126, k127⟩ := h116
            have q128 := q128.symm
            subst q128
            refine lv_pop hx hb dL_law_235 rfl ?_
            refine lv_goto (tgt := 1357) hx hb dL_law_236 (of_decide_eq_true rfl) ?_
            obtain ⟨x129, ex129⟩ : ∃ y : Int32, y = x0 + 6 := ⟨_, rfl⟩
            exact by
             have tx129 : x129.toInt = x0.toInt + 6 := (jadd ex129 rfl jz_6 (by omega) (by omega)).trans (by omega)
             refine lv_iinc (v := x129) (lv' := [(3, .int x129), (2, .ref (ad 55)), (1, .ref (ad 0)), (0, .ref b)]) hx hb dL_law_1357 hl (k := 0) rfl (by rw [ex129]; rfl) (of_decide_eq_true rfl) rfl (fun ls hl => ?_)
             refine lv_goto (tgt := 18) hx hb dL_law_1360 (of_decide_eq_true rfl) ?_
             have I130 : jI2 σ108 := jI2_fr (congrFun (f110 2 (of_decide_eq_true rfl)) 0) (congrFun (f110 2 (of_decide_eq_true rfl)) 1) (congrFun (f110 2 (of_decide_eq_true rfl)) 2) (congrFun (f110 2 (of_decide_eq_true rfl)) 3) (f110 6 (of_decide_eq_true rfl)) I26
             have I131 : jI9 σ108 := jI9_fr ((congrFun (f110 9 (of_decide_eq_true rfl)) 0).trans (congrFun (f24 9 (of_decide_eq_true rfl)) 0)) ((f110 10 (of_decide_eq_true rfl)).trans (f24 10 (of_decide_eq_true rfl))) ((f110 11 (of_decide_eq_true rfl)).trans (f24 11 (of_decide_eq_true rfl))) hI9
             have I132 : jI12 σ108 := jI12_fr ((congrFun (f110 12 (of_decide_eq_true rfl)) 0).trans (congrFun (f24 12 (of_decide_eq_true rfl)) 0)) ((f110 13 (of_decide_eq_true rfl)).trans (f24 13 (of_decide_eq_true rfl))) hI12
             have I133 : jI16 σ108 := jI16_fr ((congrFun (f110 16 (of_decide_eq_true rfl)) 0).trans (congrFun (f24 16 (of_decide_eq_true rfl)) 0)) ((congrFun (f110 16 (of_decide_eq_true rfl)) 1).trans (congrFun (f24 16 (of_decide_eq_true rfl)) 1)) ((congrFun (f110 16 (of_decide_eq_true rfl)) 2).trans (congrFun (f24 16 (of_decide_eq_true rfl)) 2)) ((f110 17 (of_decide_eq_true rfl)).trans (f24 17 (of_decide_eq_true rfl))) hI16
             have I134 : jI18 σ108 := jI18_fr ((congrFun (f110 18 (of_decide_eq_true rfl)) 0).trans (congrFun (f24 18 (of_decide_eq_true rfl)) 0)) ((f110 19 (of_decide_eq_true rfl)).trans (f24 19 (of_decide_eq_true rfl))) hI18
             have I135 : jI22 σ108 := jI22_fr ((congrFun (f110 22 (of_decide_eq_true rfl)) 0).trans (congrFun (f24 22 (of_decide_eq_true rfl)) 0)) ((f110 23 (of_decide_eq_true rfl)).trans (f24 23 (of_decide_eq_true rfl))) hI22
             exact by
              have I136 : jI31 σ108 := jI31_fr ((congrFun (f110 31 (of_decide_eq_true rfl)) 8).trans (congrFun (f24 31 (of_decide_eq_true rfl)) 8)) ((f110 33 (of_decide_eq_true rfl)).trans (f24 33 (of_decide_eq_true rfl))) ((f110 36 (of_decide_eq_true rfl)).trans (f24 36 (of_decide_eq_true rfl))) hI31
              have I137 : jI38 σ108 := jI38_fr ((congrFun (f110 38 (of_decide_eq_true rfl)) 0).trans (congrFun (f24 38 (of_decide_eq_true rfl)) 0)) ((congrFun (f110 38 (of_decide_eq_true rfl)) 1).trans (congrFun (f24 38 (of_decide_eq_true rfl)) 1)) ((f110 39 (of_decide_eq_true rfl)).trans (f24 39 (of_decide_eq_true rfl))) hI38
              have I138 : jI43 σ108 := jI43_fr ((congrFun (f110 43 (of_decide_eq_true rfl)) 8).trans (congrFun (f24 43 (of_decide_eq_true rfl)) 8)) hI43
              have I139 : jI47 σ108 := jI47_fr ((congrFun (f110 47 (of_decide_eq_true rfl)) 0).trans (congrFun (f24 47 (of_decide_eq_true rfl)) 0)) ((f110 48 (of_decide_eq_true rfl)).trans (f24 48 (of_decide_eq_true rfl))) ((f110 49 (of_decide_eq_true rfl)).trans (f24 49 (of_decide_eq_true rfl))) hI47
              have I140 : jI50 σ108 := jI50_fr ((f110 52 (of_decide_eq_true rfl)).trans (f24 52 (of_decide_eq_true rfl))) hI50
              have I141 : jI103 σ108 := jI103_fr ((f111 9 (of_decide_eq_true rfl)).trans (congrFun (f24 55 (of_decide_eq_true rfl)) 9)) hI103
              have I142 : jI104 σ108 := jI104_fr ((f111 10 (of_decide_eq_true rfl)).trans (congrFun (f24 55 (of_decide_eq_true rfl)) 10)) ((f111 12 (of_decide_eq_true rfl)).trans (congrFun (f24 55 (of_decide_eq_true rfl)) 12)) ((f111 13 (of_decide_eq_true rfl)).trans (congrFun (f24 55 (of_decide_eq_true rfl)) 13)) ((f110 62 (of_decide_eq_true rfl)).trans (f24 62 (of_decide_eq_true rfl))) ((f110 67 (of_decide_eq_true rfl)).trans (f24 67 (of_decide_eq_true rfl))) hI104
              have I143 : jI105 σ108 := jI105_fr ((f111 15 (of_decide_eq_true rfl)).trans (congrFun (f24 55 (of_decide_eq_true rfl)) 15)) ((f110 65 (of_decide_eq_true rfl)).trans (f24 65 (of_decide_eq_true rfl))) hI105
              have I144 : jI106 σ108 := jI106_fr ((f111 32 (of_decide_eq_true rfl)).trans (congrFun (f24 55 (of_decide_eq_true rfl)) 32)) ((f110 70 (of_decide_eq_true rfl)).trans (f24 70 (of_decide_eq_true rfl))) ((f110 71 (of_decide_eq_true rfl)).trans (f24 71 (of_decide_eq_true rfl))) ((f110 72 (of_decide_eq_true rfl)).trans (f24 72 (of_decide_eq_true rfl))) hI106
              have I145 : jI107 σ108 := jI107_fr ((f111 12 (of_decide_eq_true rfl)).trans (congrFun (f24 55 (of_decide_eq_true rfl)) 12)) ((f111 47 (of_decide_eq_true rfl)).trans (congrFun (f24 55 (of_decide_eq_true rfl)) 47)) ((f110 80 (of_decide_eq_true rfl)).trans (f24 80 (of_decide_eq_true rfl))) hI107
              have I146 : jI109 σ108 := jI109_fr ((f111 50 (of_decide_eq_true rfl)).trans (congrFun (f24 55 (of_decide_eq_true rfl)) 50)) hI109
              have I147 : jI110 σ108 := jI110_fr ((f110 86 (of_decide_eq_true rfl)).trans (f24 86 (of_decide_eq_true rfl))) ((f110 87 (of_decide_eq_true rfl)).trans (f24 87 (of_decide_eq_true rfl))) hI110
              have I148 : jI111 σ108 := jI111_fr ((f110 79 (of_decide_eq_true rfl)).trans (f24 79 (of_decide_eq_true rfl))) hI111
              have I149 : jI119 σ108 := jI119_fr ((f110 68 (of_decide_eq_true rfl)).trans (f24 68 (of_decide_eq_true rfl))) hI119
              have p150 : jKept σ108 := jKept.fr ((f110 75 (of_decide_eq_true rfl)).trans (f24 75 (of_decide_eq_true rfl))) ((f110 76 (of_decide_eq_true rfl)).trans (f24 76 (of_decide_eq_true rfl))) ((f110 77 (of_decide_eq_true rfl)).trans (f24 77 (of_decide_eq_true rfl))) hs_jKept
              have p151 : jBook σ108 := jBook.fr ((f111 47 (of_decide_eq_true rfl)).trans (congrFun (f24 55 (of_decide_eq_true rfl)) 47)) ((f111 10 (of_decide_eq_true rfl)).trans (congrFun (f24 55 (of_decide_eq_true rfl)) 10)) ((f110 81 (of_decide_eq_true rfl)).trans (f24 81 (of_decide_eq_true rfl))) hs_jBook
              have z152 : (σ108 9 0).toInt = (σ 9 0).toInt := (congrArg Int32.toInt (show σ108 9 0 = (σ 9 0) from ((congrFun (f110 9 (of_decide_eq_true rfl)) 0).trans (congrFun (f24 9 (of_decide_eq_true rfl)) 0))))
              have z153 : (σ108 55 15).toInt = (σ 55 15).toInt := (congrArg Int32.toInt (show σ108 55 15 = (σ 55 15) from ((f111 15 (of_decide_eq_true rfl)).trans (congrFun (f24 55 (of_decide_eq_true rfl)) 15))))
              have z154 : (σ108 16 0).toInt = (σ 16 0).toInt := (congrArg Int32.toInt (show σ108 16 0 = (σ 16 0) from ((congrFun (f110 16 (of_decide_eq_true rfl)) 0).trans (congrFun (f24 16 (of_decide_eq_true rfl)) 0))))
              have z155 : (σ108 55 10).toInt = (σ 55 10).toInt := (congrArg Int32.toInt (show σ108 55 10 = (σ 55 10) from ((f111 10 (of_decide_eq_true rfl)).trans (congrFun (f24 55 (of_decide_eq_true rfl)) 10))))
              have z156 : (σ108 16 1).toInt = (σ 16 1).toInt := (congrArg Int32.toInt (show σ108 16 1 = (σ 16 1) from ((congrFun (f110 16 (of_decide_eq_true rfl)) 1).trans (congrFun (f24 16 (of_decide_eq_true rfl)) 1))))
              have z157 : (σ108 55 12).toInt = (σ 55 12).toInt := (congrArg Int32.toInt (show σ108 55 12 = (σ 55 12) from ((f111 12 (of_decide_eq_true rfl)).trans (congrFun (f24 55 (of_decide_eq_true rfl)) 12))))
              have z158 : (σ108 16 2).toInt = (σ 16 2).toInt := (congrArg Int32.toInt (show σ108 16 2 = (σ 16 2) from ((congrFun (f110 16 (of_decide_eq_true rfl)) 2).trans (congrFun (f24 16 (of_decide_eq_true rfl)) 2))))
              have z159 : (σ108 55 13).toInt = (σ 55 13).toInt := (congrArg Int32.toInt (show σ108 55 13 = (σ 55 13) from ((f111 13 (of_decide_eq_true rfl)).trans (congrFun (f24 55 (of_decide_eq_true rfl)) 13))))
              exact by exact ih x129 σ108 τ _ _ ls (by have h9 := tx129; omega) ⟨I130, I131, I132, I133, I134, I135, I136, I137, I138, I139, I140, I112, I113, I141, I142, I143, I144, I145, I146, I147, I148, I149, p150, p151, (by omega), (by omega), (by omega), (by omega), (show jTp (σ108 10) (σ108 63) (σ108 55 15).toInt by rw [show σ108 10 = σ 10 from ((f110 10 (of_decide_eq_true rfl)).trans (f24 10 (of_decide_eq_true rfl))), show σ108 63 = σ 63 from ((f110 63 (of_decide_eq_true rfl)).trans (f24 63 (of_decide_eq_true rfl)))]; exact hr0.le (by omega)), (show jSo (σ108 17) (σ108 62) (σ108 16 0).toInt by rw [show σ108 17 = σ 17 from ((f110 17 (of_decide_eq_true rfl)).trans (f24 17 (of_decide_eq_true rfl))), show σ108 62 = σ 62 from ((f110 62 (of_decide_eq_true rfl)).trans (f24 62 (of_decide_eq_true rfl))), show (σ108 16 0).toInt = (σ 16 0).toInt from by omega]; exact hr1)⟩ hP hS (lv_sub hl [0, 1, 2, 3] rfl)
          · obtain ⟨q167, k160, k161, k162, k163, k164, k165, k166⟩ := h117
            refine lv_pop hx hb dL_law_235 rfl ?_
            refine lv_goto (tgt := 1357) hx hb dL_law_236 (of_decide_eq_true rfl) ?_
            obtain ⟨x168, ex168⟩ : ∃ y : Int32, y = x0 + 6 := ⟨_, rfl⟩
            exact by
             have tx168 : x168.toInt = x0.toInt + 6 := (jadd ex168 rfl jz_6 (by omega) (by omega)).trans (by omega)
             refine lv_iinc (v := x168) (lv' := [(3, .int x168), (2, .ref (ad 55)), (1, .ref (ad 0)), (0, .ref b)]) hx hb dL_law_1357 hl (k := 0) rfl (by rw [ex168]; rfl) (of_decide_eq_true rfl) rfl (fun ls hl => ?_)
             refine lv_goto (tgt := 18) hx hb dL_law_1360 (of_decide_eq_true rfl) ?_
             have I169 : jI2 σ108 := jI2_fr (congrFun (f110 2 (of_decide_eq_true rfl)) 0) (congrFun (f110 2 (of_decide_eq_true rfl)) 1) (congrFun (f110 2 (of_decide_eq_true rfl)) 2) (congrFun (f110 2 (of_decide_eq_true rfl)) 3) (f110 6 (of_decide_eq_true rfl)) I26
             have I170 : jI9 σ108 := jI9_fr ((congrFun (f110 9 (of_decide_eq_true rfl)) 0).trans (congrFun (f24 9 (of_decide_eq_true rfl)) 0)) ((f110 10 (of_decide_eq_true rfl)).trans (f24 10 (of_decide_eq_true rfl))) ((f110 11 (of_decide_eq_true rfl)).trans (f24 11 (of_decide_eq_true rfl))) hI9
             have I171 : jI12 σ108 := jI12_fr ((congrFun (f110 12 (of_decide_eq_true rfl)) 0).trans (congrFun (f24 12 (of_decide_eq_true rfl)) 0)) ((f110 13 (of_decide_eq_true rfl)).trans (f24 13 (of_decide_eq_true rfl))) hI12
             have I172 : jI16 σ108 := jI16_fr ((congrFun (f110 16 (of_decide_eq_true rfl)) 0).trans (congrFun (f24 16 (of_decide_eq_true rfl)) 0)) ((congrFun (f110 16 (of_decide_eq_true rfl)) 1).trans (congrFun (f24 16 (of_decide_eq_true rfl)) 1)) ((congrFun (f110 16 (of_decide_eq_true rfl)) 2).trans (congrFun (f24 16 (of_decide_eq_true rfl)) 2)) ((f110 17 (of_decide_eq_true rfl)).trans (f24 17 (of_decide_eq_true rfl))) hI16
             have I173 : jI18 σ108 := jI18_fr ((congrFun (f110 18 (of_decide_eq_true rfl)) 0).trans (congrFun (f24 18 (of_decide_eq_true rfl)) 0)) ((f110 19 (of_decide_eq_true rfl)).trans (f24 19 (of_decide_eq_true rfl))) hI18
             have I174 : jI22 σ108 := jI22_fr ((congrFun (f110 22 (of_decide_eq_true rfl)) 0).trans (congrFun (f24 22 (of_decide_eq_true rfl)) 0)) ((f110 23 (of_decide_eq_true rfl)).trans (f24 23 (of_decide_eq_true rfl))) hI22
             exact by
              have I175 : jI31 σ108 := jI31_fr ((congrFun (f110 31 (of_decide_eq_true rfl)) 8).trans (congrFun (f24 31 (of_decide_eq_true rfl)) 8)) ((f110 33 (of_decide_eq_true rfl)).trans (f24 33 (of_decide_eq_true rfl))) ((f110 36 (of_decide_eq_true rfl)).trans (f24 36 (of_decide_eq_true rfl))) hI31
              have I176 : jI38 σ108 := jI38_fr ((congrFun (f110 38 (of_decide_eq_true rfl)) 0).trans (congrFun (f24 38 (of_decide_eq_true rfl)) 0)) ((congrFun (f110 38 (of_decide_eq_true rfl)) 1).trans (congrFun (f24 38 (of_decide_eq_true rfl)) 1)) ((f110 39 (of_decide_eq_true rfl)).trans (f24 39 (of_decide_eq_true rfl))) hI38
              have I177 : jI43 σ108 := jI43_fr ((congrFun (f110 43 (of_decide_eq_true rfl)) 8).trans (congrFun (f24 43 (of_decide_eq_true rfl)) 8)) hI43
              have I178 : jI47 σ108 := jI47_fr ((congrFun (f110 47 (of_decide_eq_true rfl)) 0).trans (congrFun (f24 47 (of_decide_eq_true rfl)) 0)) ((f110 48 (of_decide_eq_true rfl)).trans (f24 48 (of_decide_eq_true rfl))) ((f110 49 (of_decide_eq_true rfl)).trans (f24 49 (of_decide_eq_true rfl))) hI47
              have I179 : jI50 σ108 := jI50_fr ((f110 52 (of_decide_eq_true rfl)).trans (f24 52 (of_decide_eq_true rfl))) hI50
              have I180 : jI103 σ108 := jI103_fr ((f111 9 (of_decide_eq_true rfl)).trans (congrFun (f24 55 (of_decide_eq_true rfl)) 9)) hI103
              have I181 : jI104 σ108 := jI104_fr ((f111 10 (of_decide_eq_true rfl)).trans (congrFun (f24 55 (of_decide_eq_true rfl)) 10)) ((f111 12 (of_decide_eq_true rfl)).trans (congrFun (f24 55 (of_decide_eq_true rfl)) 12)) ((f111 13 (of_decide_eq_true rfl)).trans (congrFun (f24 55 (of_decide_eq_true rfl)) 13)) ((f110 62 (of_decide_eq_true rfl)).trans (f24 62 (of_decide_eq_true rfl))) ((f110 67 (of_decide_eq_true rfl)).trans (f24 67 (of_decide_eq_true rfl))) hI104
              have I182 : jI105 σ108 := jI105_fr ((f111 15 (of_decide_eq_true rfl)).trans (congrFun (f24 55 (of_decide_eq_true rfl)) 15)) ((f110 65 (of_decide_eq_true rfl)).trans (f24 65 (of_decide_eq_true rfl))) hI105
              have I183 : jI106 σ108 := jI106_fr ((f111 32 (of_decide_eq_true rfl)).trans (congrFun (f24 55 (of_decide_eq_true rfl)) 32)) ((f110 70 (of_decide_eq_true rfl)).trans (f24 70 (of_decide_eq_true rfl))) ((f110 71 (of_decide_eq_true rfl)).trans (f24 71 (of_decide_eq_true rfl))) ((f110 72 (of_decide_eq_true rfl)).trans (f24 72 (of_decide_eq_true rfl))) hI106
              have I184 : jI107 σ108 := jI107_fr ((f111 12 (of_decide_eq_true rfl)).trans (congrFun (f24 55 (of_decide_eq_true rfl)) 12)) ((f111 47 (of_decide_eq_true rfl)).trans (congrFun (f24 55 (of_decide_eq_true rfl)) 47)) ((f110 80 (of_decide_eq_true rfl)).trans (f24 80 (of_decide_eq_true rfl))) hI107
              have I185 : jI109 σ108 := jI109_fr ((f111 50 (of_decide_eq_true rfl)).trans (congrFun (f24 55 (of_decide_eq_true rfl)) 50)) hI109
              have I186 : jI110 σ108 := jI110_fr ((f110 86 (of_decide_eq_true rfl)).trans (f24 86 (of_decide_eq_true rfl))) ((f110 87 (of_decide_eq_true rfl)).trans (f24 87 (of_decide_eq_true rfl))) hI110
              have I187 : jI111 σ108 := jI111_fr ((f110 79 (of_decide_eq_true rfl)).trans (f24 79 (of_decide_eq_true rfl))) hI111
              have I188 : jI119 σ108 := jI119_fr ((f110 68 (of_decide_eq_true rfl)).trans (f24 68 (of_decide_eq_true rfl))) hI119
              have p189 : jKept σ108 := jKept.fr ((f110 75 (of_decide_eq_true rfl)).trans (f24 75 (of_decide_eq_true rfl))) ((f110 76 (of_decide_eq_true rfl)).trans (f24 76 (of_decide_eq_true rfl))) ((f110 77 (of_decide_eq_true rfl)).trans (f24 77 (of_decide_eq_true rfl))) hs_jKept
              have p190 : jBook σ108 := jBook.fr ((f111 47 (of_decide_eq_true rfl)).trans (congrFun (f24 55 (of_decide_eq_true rfl)) 47)) ((f111 10 (of_decide_eq_true rfl)).trans (congrFun (f24 55 (of_decide_eq_true rfl)) 10)) ((f110 81 (of_decide_eq_true rfl)).trans (f24 81 (of_decide_eq_true rfl))) hs_jBook
              have z191 : (σ108 9 0).toInt = (σ 9 0).toInt := (congrArg Int32.toInt (show σ108 9 0 = (σ 9 0) from ((congrFun (f110 9 (of_decide_eq_true rfl)) 0).trans (congrFun (f24 9 (of_decide_eq_true rfl)) 0))))
              have z192 : (σ108 55 15).toInt = (σ 55 15).toInt := (congrArg Int32.toInt (show σ108 55 15 = (σ 55 15) from ((f111 15 (of_decide_eq_true rfl)).trans (congrFun (f24 55 (of_decide_eq_true rfl)) 15))))
              have z193 : (σ108 16 0).toInt = (σ 16 0).toInt := (congrArg Int32.toInt (show σ108 16 0 = (σ 16 0) from ((congrFun (f110 16 (of_decide_eq_true rfl)) 0).trans (congrFun (f24 16 (of_decide_eq_true rfl)) 0))))
              have z194 : (σ108 55 10).toInt = (σ 55 10).toInt := (congrArg Int32.toInt (show σ108 55 10 = (σ 55 10) from ((f111 10 (of_decide_eq_true rfl)).trans (congrFun (f24 55 (of_decide_eq_true rfl)) 10))))
              have z195 : (σ108 16 1).toInt = (σ 16 1).toInt := (congrArg Int32.toInt (show σ108 16 1 = (σ 16 1) from ((congrFun (f110 16 (of_decide_eq_true rfl)) 1).trans (congrFun (f24 16 (of_decide_eq_true rfl)) 1))))
              have z196 : (σ108 55 12).toInt = (σ 55 12).toInt := (congrArg Int32.toInt (show σ108 55 12 = (σ 55 12) from ((f111 12 (of_decide_eq_true rfl)).trans (congrFun (f24 55 (of_decide_eq_true rfl)) 12))))
              have z197 : (σ108 16 2).toInt = (σ 16 2).toInt := (congrArg Int32.toInt (show σ108 16 2 = (σ 16 2) from ((congrFun (f110 16 (of_decide_eq_true rfl)) 2).trans (congrFun (f24 16 (of_decide_eq_true rfl)) 2))))
              have z198 : (σ108 55 13).toInt = (σ 55 13).toInt := (congrArg Int32.toInt (show σ108 55 13 = (σ 55 13) from ((f111 13 (of_decide_eq_true rfl)).trans (congrFun (f24 55 (of_decide_eq_true rfl)) 13))))
              exact by exact ih x168 σ108 τ _ _ ls (by have h9 := tx168; omega) ⟨I169, I170, I171, I172, I173, I174, I175, I176, I177, I178, I179, I112, I113, I180, I181, I182, I183, I184, I185, I186, I187, I188, p189, p190, (by omega), (by omega), (by omega), (by omega), (show jTp (σ108 10) (σ108 63) (σ108 55 15).toInt by rw [show σ108 10 = σ 10 from ((f110 10 (of_decide_eq_true rfl)).trans (f24 10 (of_decide_eq_true rfl))), show σ108 63 = σ 63 from ((f110 63 (of_decide_eq_true rfl)).trans (f24 63 (of_decide_eq_true rfl)))]; exact hr0.le (by omega)), (show jSo (σ108 17) (σ108 62) (σ108 16 0).toInt by rw [show σ108 17 = σ 17 from ((f110 17 (of_decide_eq_true rfl)).trans (f24 17 (of_decide_eq_true rfl))), show σ108 62 = σ 62 from ((f110 62 (of_decide_eq_true rfl)).trans (f24 62 (of_decide_eq_true rfl))), show (σ108 16 0).toInt = (σ 16 0).toInt from by omega]; exact hr1)⟩ hP hS (lv_sub hl [0, 1, 2, 3] rfl)
     · obtain ⟨q206, k199, k200, k201, k202, k203, k204, k205⟩ := h30
       refine lv_pop hx hb dL_law_215 rfl ?_
       refine lv_aload_n hx hb dL_law_216 rfl (lv_at hl 1 rfl) ?_
       refine lv_aload_n hx hb dL_law_217 rfl (lv_at hl 3 rfl) ?_
       refine lv_iload_n hx hb dL_law_218 rfl (lv_at hl 0 rfl) ?_
       refine lv_iconst (v := 1) hx hb dL_law_219 (of_decide_eq_true rfl) ?_
       refine lv_iadd hx hb dL_law_220 ?_
       refine jtopr ex16.symm ?_
       exact by
        refine va_sld hx hb hX hbl hbA hS (jin tx16 (by omega) (by omega)) dL_law_221 ?_
        refine lv_aload_n hx hb dL_law_222 rfl (lv_at hl 3 rfl) ?_
        refine lv_iload_n hx hb dL_law_223 rfl (lv_at hl 0 rfl) ?_
        refine lv_iconst (v := 2) hx hb dL_law_224 (of_decide_eq_true rfl) ?_
        refine lv_iadd hx hb dL_law_225 ?_
        refine jtopr ex18.symm ?_
        refine va_sld hx hb hX hbl hbA hS (jin tx18 (by omega) (by omega)) dL_law_226 ?_
        refine lv_aload_n hx hb dL_law_227 rfl (lv_at hl 3 rfl) ?_
        refine lv_iload_n hx hb dL_law_228 rfl (lv_at hl 0 rfl) ?_
        exact by
         refine lv_iconst (v := 3) hx hb dL_law_229 (of_decide_eq_true rfl) ?_
         refine lv_iadd hx hb dL_law_230 ?_
         refine jtopr ex20.symm ?_
         refine va_sld hx hb hX hbl hbA hS (jin tx20 (by omega) (by omega)) dL_law_231 ?_
         have I207 : jI101 σ22 := jI101_fr (congrFun (f24 55 (of_decide_eq_true rfl)) 4) (congrFun (f24 55 (of_decide_eq_true rfl)) 5) (f24 56 (of_decide_eq_true rfl)) (f24 57 (of_decide_eq_true rfl)) (f24 58 (of_decide_eq_true rfl)) (f24 59 (of_decide_eq_true rfl)) hI101
         have I208 : jI102 σ22 := jI102_fr (congrFun (f24 55 (of_decide_eq_true rfl)) 6) (f24 60 (of_decide_eq_true rfl)) (f24 61 (of_decide_eq_true rfl)) hI102
         have z209 : (σ22 55 6).toInt = (σ 55 6).toInt := (congrArg Int32.toInt (show σ22 55 6 = (σ 55 6) from (congrFun (f24 55 (of_decide_eq_true rfl)) 6)))
         refine jcallV (As := [.int (xs x16.toNatClampNeg), .int (xs x18.toNatClampNeg), .int (xs x20.toNatClampNeg)]) (rest := []) ⟨hx, hb, hml, hown, hts⟩ hK hP hA hS hZ (c_X12_bowler l D cI cL ad zz hJ σ22 τ (xs x16.toNatClampNeg) ((xs x16.toNatClampNeg).toInt) rfl (xs x18.toNatClampNeg) ((xs x18.toNatClampNeg).toInt) rfl (xs x20.toNatClampNeg) ((xs x20.toNatClampNeg).toInt) rfl I207 I208) cw_RL_17 (jc_55 cI cL ad σ22 τ) rfl ⟨Nat.le_of_ble_eq_true rfl, Nat.le_of_ble_eq_true rfl⟩ rfl rfl rfl hl.1 rfl (Nat.le_of_ble_eq_true rfl) dL_law_232 ⟨Nat.le_of_ble_eq_true rfl, Nat.le_of_ble_eq_true rfl⟩ (fun r211 σ210 τ210 H locs h210 hP hS => ?_)
         obtain ⟨rfl, f212, f213, I214, I215, h210⟩ := h210
         exact by
          rcases h210 with h217 | h218 | h219
          · obtain ⟨q223, k220, k221, k222⟩ := h217
            exact absurd (by omega : False) id
          · obtain ⟨q230, k224, k225, k226, k227, k228, k229⟩ := h218
            have q230 := q230.symm
            subst q230
            refine lv_pop hx hb dL_law_235 rfl ?_
            refine lv_goto (tgt := 1357) hx hb dL_law_236 (of_decide_eq_true rfl) ?_
            obtain ⟨x231, ex231⟩ : ∃ y : Int32, y = x0 + 6 := ⟨_, rfl⟩
            exact by
             have tx231 : x231.toInt = x0.toInt + 6 := (jadd ex231 rfl jz_6 (by omega) (by omega)).trans (by omega)
             refine lv_iinc (v := x231) (lv' := [(3, .int x231), (2, .ref (ad 55)), (1, .ref (ad 0)), (0, .ref b)]) hx hb dL_law_1357 hl (k := 0) rfl (by rw [ex231]; rfl) (of_decide_eq_true rfl) rfl (fun ls hl => ?_)
             refine lv_goto (tgt := 18) hx hb dL_law_1360 (of_decide_eq_true rfl) ?_
             have I232 : jI2 σ210 := jI2_fr (congrFun (f212 2 (of_decide_eq_true rfl)) 0) (congrFun (f212 2 (of_decide_eq_true rfl)) 1) (congrFun (f212 2 (of_decide_eq_true rfl)) 2) (congrFun (f212 2 (of_decide_eq_true rfl)) 3) (f212 6 (of_decide_eq_true rfl)) I26
             have I233 : jI9 σ210 := jI9_fr ((congrFun (f212 9 (of_decide_eq_true rfl)) 0).trans (congrFun (f24 9 (of_decide_eq_true rfl)) 0)) ((f212 10 (of_decide_eq_true rfl)).trans (f24 10 (of_decide_eq_true rfl))) ((f212 11 (of_decide_eq_true rfl)).trans (f24 11 (of_decide_eq_true rfl))) hI9
             have I234 : jI12 σ210 := jI12_fr ((congrFun (f212 12 (of_decide_eq_true rfl)) 0).trans (congrFun (f24 12 (of_decide_eq_true rfl)) 0)) ((f212 13 (of_decide_eq_true rfl)).trans (f24 13 (of_decide_eq_true rfl))) hI12
             have I235 : jI16 σ210 := jI16_fr ((congrFun (f212 16 (of_decide_eq_true rfl)) 0).trans (congrFun (f24 16 (of_decide_eq_true rfl)) 0)) ((congrFun (f212 16 (of_decide_eq_true rfl)) 1).trans (congrFun (f24 16 (of_decide_eq_true rfl)) 1)) ((congrFun (f212 16 (of_decide_eq_true rfl)) 2).trans (congrFun (f24 16 (of_decide_eq_true rfl)) 2)) ((f212 17 (of_decide_eq_true rfl)).trans (f24 17 (of_decide_eq_true rfl))) hI16
             have I236 : jI18 σ210 := jI18_fr ((congrFun (f212 18 (of_decide_eq_true rfl)) 0).trans (congrFun (f24 18 (of_decide_eq_true rfl)) 0)) ((f212 19 (of_decide_eq_true rfl)).trans (f24 19 (of_decide_eq_true rfl))) hI18
             have I237 : jI22 σ210 := jI22_fr ((congrFun (f212 22 (of_decide_eq_true rfl)) 0).trans (congrFun (f24 22 (of_decide_eq_true rfl)) 0)) ((f212 23 (of_decide_eq_true rfl)).trans (f24 23 (of_decide_eq_true rfl))) hI22
             exact by
              have I238 : jI31 σ210 := jI31_fr ((congrFun (f212 31 (of_decide_eq_true rfl)) 8).trans (congrFun (f24 31 (of_decide_eq_true rfl)) 8)) ((f212 33 (of_decide_eq_true rfl)).trans (f24 33 (of_decide_eq_true rfl))) ((f212 36 (of_decide_eq_true rfl)).trans (f24 36 (of_decide_eq_true rfl))) hI31
              have I239 : jI38 σ210 := jI38_fr ((congrFun (f212 38 (of_decide_eq_true rfl)) 0).trans (congrFun (f24 38 (of_decide_eq_true rfl)) 0)) ((congrFun (f212 38 (of_decide_eq_true rfl)) 1).trans (congrFun (f24 38 (of_decide_eq_true rfl)) 1)) ((f212 39 (of_decide_eq_true rfl)).trans (f24 39 (of_decide_eq_true rfl))) hI38
              have I240 : jI43 σ210 := jI43_fr ((congrFun (f212 43 (of_decide_eq_true rfl)) 8).trans (congrFun (f24 43 (of_decide_eq_true rfl)) 8)) hI43
              have I241 : jI47 σ210 := jI47_fr ((congrFun (f212 47 (of_decide_eq_true rfl)) 0).trans (congrFun (f24 47 (of_decide_eq_true rfl)) 0)) ((f212 48 (of_decide_eq_true rfl)).trans (f24 48 (of_decide_eq_true rfl))) ((f212 49 (of_decide_eq_true rfl)).trans (f24 49 (of_decide_eq_true rfl))) hI47
              have I242 : jI50 σ210 := jI50_fr ((f212 52 (of_decide_eq_true rfl)).trans (f24 52 (of_decide_eq_true rfl))) hI50
              have I243 : jI103 σ210 := jI103_fr ((f213 9 (of_decide_eq_true rfl)).trans (congrFun (f24 55 (of_decide_eq_true rfl)) 9)) hI103
              have I244 : jI104 σ210 := jI104_fr ((f213 10 (of_decide_eq_true rfl)).trans (congrFun (f24 55 (of_decide_eq_true rfl)) 10)) ((f213 12 (of_decide_eq_true rfl)).trans (congrFun (f24 55 (of_decide_eq_true rfl)) 12)) ((f213 13 (of_decide_eq_true rfl)).trans (congrFun (f24 55 (of_decide_eq_true rfl)) 13)) ((f212 62 (of_decide_eq_true rfl)).trans (f24 62 (of_decide_eq_true rfl))) ((f212 67 (of_decide_eq_true rfl)).trans (f24 67 (of_decide_eq_true rfl))) hI104
              have I245 : jI105 σ210 := jI105_fr ((f213 15 (of_decide_eq_true rfl)).trans (congrFun (f24 55 (of_decide_eq_true rfl)) 15)) ((f212 65 (of_decide_eq_true rfl)).trans (f24 65 (of_decide_eq_true rfl))) hI105
              have I246 : jI106 σ210 := jI106_fr ((f213 32 (of_decide_eq_true rfl)).trans (congrFun (f24 55 (of_decide_eq_true rfl)) 32)) ((f212 70 (of_decide_eq_true rfl)).trans (f24 70 (of_decide_eq_true rfl))) ((f212 71 (of_decide_eq_true rfl)).trans (f24 71 (of_decide_eq_true rfl))) ((f212 72 (of_decide_eq_true rfl)).trans (f24 72 (of_decide_eq_true rfl))) hI106
              have I247 : jI107 σ210 := jI107_fr ((f213 12 (of_decide_eq_true rfl)).trans (congrFun (f24 55 (of_decide_eq_true rfl)) 12)) ((f213 47 (of_decide_eq_true rfl)).trans (congrFun (f24 55 (of_decide_eq_true rfl)) 47)) ((f212 80 (of_decide_eq_true rfl)).trans (f24 80 (of_decide_eq_true rfl))) hI107
              have I248 : jI109 σ210 := jI109_fr ((f213 50 (of_decide_eq_true rfl)).trans (congrFun (f24 55 (of_decide_eq_true rfl)) 50)) hI109
              have I249 : jI110 σ210 := jI110_fr ((f212 86 (of_decide_eq_true rfl)).trans (f24 86 (of_decide_eq_true rfl))) ((f212 87 (of_decide_eq_true rfl)).trans (f24 87 (of_decide_eq_true rfl))) hI110
              have I250 : jI111 σ210 := jI111_fr ((f212 79 (of_decide_eq_true rfl)).trans (f24 79 (of_decide_eq_true rfl))) hI111
              have I251 : jI119 σ210 := jI119_fr ((f212 68 (of_decide_eq_true rfl)).trans (f24 68 (of_decide_eq_true rfl))) hI119
              have p252 : jKept σ210 := jKept.fr ((f212 75 (of_decide_eq_true rfl)).trans (f24 75 (of_decide_eq_true rfl))) ((f212 76 (of_decide_eq_true rfl)).trans (f24 76 (of_decide_eq_true rfl))) ((f212 77 (of_decide_eq_true rfl)).trans (f24 77 (of_decide_eq_true rfl))) hs_jKept
              have p253 : jBook σ210 := jBook.fr ((f213 47 (of_decide_eq_true rfl)).trans (congrFun (f24 55 (of_decide_eq_true rfl)) 47)) ((f213 10 (of_decide_eq_true rfl)).trans (congrFun (f24 55 (of_decide_eq_true rfl)) 10)) ((f212 81 (of_decide_eq_true rfl)).trans (f24 81 (of_decide_eq_true rfl))) hs_jBook
              have z254 : (σ210 9 0).toInt = (σ 9 0).toInt := (congrArg Int32.toInt (show σ210 9 0 = (σ 9 0) from ((congrFun (f212 9 (of_decide_eq_true rfl)) 0).trans (congrFun (f24 9 (of_decide_eq_true rfl)) 0))))
              have z255 : (σ210 55 15).toInt = (σ 55 15).toInt := (congrArg Int32.toInt (show σ210 55 15 = (σ 55 15) from ((f213 15 (of_decide_eq_true rfl)).trans (congrFun (f24 55 (of_decide_eq_true rfl)) 15))))
              have z256 : (σ210 16 0).toInt = (σ 16 0).toInt := (congrArg Int32.toInt (show σ210 16 0 = (σ 16 0) from ((congrFun (f212 16 (of_decide_eq_true rfl)) 0).trans (congrFun (f24 16 (of_decide_eq_true rfl)) 0))))
              have z257 : (σ210 55 10).toInt = (σ 55 10).toInt := (congrArg Int32.toInt (show σ210 55 10 = (σ 55 10) from ((f213 10 (of_decide_eq_true rfl)).trans (congrFun (f24 55 (of_decide_eq_true rfl)) 10))))
              have z258 : (σ210 16 1).toInt = (σ 16 1).toInt := (congrArg Int32.toInt (show σ210 16 1 = (σ 16 1) from ((congrFun (f212 16 (of_decide_eq_true rfl)) 1).trans (congrFun (f24 16 (of_decide_eq_true rfl)) 1))))
              have z259 : (σ210 55 12).toInt = (σ 55 12).toInt := (congrArg Int32.toInt (show σ210 55 12 = (σ 55 12) from ((f213 12 (of_decide_eq_true rfl)).trans (congrFun (f24 55 (of_decide_eq_true rfl)) 12))))
              have z260 : (σ210 16 2).toInt = (σ 16 2).toInt := (congrArg Int32.toInt (show σ210 16 2 = (σ 16 2) from ((congrFun (f212 16 (of_decide_eq_true rfl)) 2).trans (congrFun (f24 16 (of_decide_eq_true rfl)) 2))))
              have z261 : (σ210 55 13).toInt = (σ 55 13).toInt := (congrArg Int32.toInt (show σ210 55 13 = (σ 55 13) from ((f213 13 (of_decide_eq_true rfl)).trans (congrFun (f24 55 (of_decide_eq_true rfl)) 13))))
              exact by exact ih x231 σ210 τ _ _ ls (by have h9 := tx231; omega) ⟨I232, I233, I234, I235, I236, I237, I238, I239, I240, I241, I242, I214, I215, I243, I244, I245, I246, I247, I248, I249, I250, I251, p252, p253, (by omega), (by omega), (by omega), (by omega), (show jTp (σ210 10) (σ210 63) (σ210 55 15).toInt by rw [show σ210 10 = σ 10 from ((f212 10 (of_decide_eq_true rfl)).trans (f24 10 (of_decide_eq_true rfl))), show σ210 63 = σ 63 from ((f212 63 (of_decide_eq_true rfl)).trans (f24 63 (of_decide_eq_true rfl)))]; exact hr0.le (by omega)), (show jSo (σ210 17) (σ210 62) (σ210 16 0).toInt by rw [show σ210 17 = σ 17 from ((f212 17 (of_decide_eq_true rfl)).trans (f24 17 (of_decide_eq_true rfl))), show σ210 62 = σ 62 from ((f212 62 (of_decide_eq_true rfl)).trans (f24 62 (of_decide_eq_true rfl))), show (σ210 16 0).toInt = (σ 16 0).toInt from by omega]; exact hr1)⟩ hP hS (lv_sub hl [0, 1, 2, 3] rfl)
          · obtain ⟨q269, k262, k263, k264, k265, k266, k267, k268⟩ := h219
            refine lv_pop hx hb dL_law_235 rfl ?_
            refine lv_goto (tgt := 1357) hx hb dL_law_236 (of_decide_eq_true rfl) ?_
            obtain ⟨x270, ex270⟩ : ∃ y : Int32, y = x0 + 6 := ⟨_, rfl⟩
            exact by
             have tx270 : x270.toInt = x0.toInt + 6 := (jadd ex270 rfl jz_6 (by omega) (by omega)).trans (by omega)
             refine lv_iinc (v := x270) (lv' := [(3, .int x270), (2, .ref (ad 55)), (1, .ref (ad 0)), (0, .ref b)]) hx hb dL_law_1357 hl (k := 0) rfl (by rw [ex270]; rfl) (of_decide_eq_true rfl) rfl (fun ls hl => ?_)
             refine lv_goto (tgt := 18) hx hb dL_law_1360 (of_decide_eq_true rfl) ?_
             have I271 : jI2 σ210 := jI2_fr (congrFun (f212 2 (of_decide_eq_true rfl)) 0) (congrFun (f212 2 (of_decide_eq_true rfl)) 1) (congrFun (f212 2 (of_decide_eq_true rfl)) 2) (congrFun (f212 2 (of_decide_eq_true rfl)) 3) (f212 6 (of_decide_eq_true rfl)) I26
             have I272 : jI9 σ210 := jI9_fr ((congrFun (f212 9 (of_decide_eq_true rfl)) 0).trans (congrFun (f24 9 (of_decide_eq_true rfl)) 0)) ((f212 10 (of_decide_eq_true rfl)).trans (f24 10 (of_decide_eq_true rfl))) ((f212 11 (of_decide_eq_true rfl)).trans (f24 11 (of_decide_eq_true rfl))) hI9
             have I273 : jI12 σ210 := jI12_fr ((congrFun (f212 12 (of_decide_eq_true rfl)) 0).trans (congrFun (f24 12 (of_decide_eq_true rfl)) 0)) ((f212 13 (of_decide_eq_true rfl)).trans (f24 13 (of_decide_eq_true rfl))) hI12
             have I274 : jI16 σ210 := jI16_fr ((congrFun (f212 16 (of_decide_eq_true rfl)) 0).trans (congrFun (f24 16 (of_decide_eq_true rfl)) 0)) ((congrFun (f212 16 (of_decide_eq_true rfl)) 1).trans (congrFun (f24 16 (of_decide_eq_true rfl)) 1)) ((congrFun (f212 16 (of_decide_eq_true rfl)) 2).trans (congrFun (f24 16 (of_decide_eq_true rfl)) 2)) ((f212 17 (of_decide_eq_true rfl)).trans (f24 17 (of_decide_eq_true rfl))) hI16
             have I275 : jI18 σ210 := jI18_fr ((congrFun (f212 18 (of_decide_eq_true rfl)) 0).trans (congrFun (f24 18 (of_decide_eq_true rfl)) 0)) ((f212 19 (of_decide_eq_true rfl)).trans (f24 19 (of_decide_eq_true rfl))) hI18
             have I276 : jI22 σ210 := jI22_fr ((congrFun (f212 22 (of_decide_eq_true rfl)) 0).trans (congrFun (f24 22 (of_decide_eq_true rfl)) 0)) ((f212 23 (of_decide_eq_true rfl)).trans (f24 23 (of_decide_eq_true rfl))) hI22
             exact by
              have I277 : jI31 σ210 := jI31_fr ((congrFun (f212 31 (of_decide_eq_true rfl)) 8).trans (congrFun (f24 31 (of_decide_eq_true rfl)) 8)) ((f212 33 (of_decide_eq_true rfl)).trans (f24 33 (of_decide_eq_true rfl))) ((f212 36 (of_decide_eq_true rfl)).trans (f24 36 (of_decide_eq_true rfl))) hI31
              have I278 : jI38 σ210 := jI38_fr ((congrFun (f212 38 (of_decide_eq_true rfl)) 0).trans (congrFun (f24 38 (of_decide_eq_true rfl)) 0)) ((congrFun (f212 38 (of_decide_eq_true rfl)) 1).trans (congrFun (f24 38 (of_decide_eq_true rfl)) 1)) ((f212 39 (of_decide_eq_true rfl)).trans (f24 39 (of_decide_eq_true rfl))) hI38
              have I279 : jI43 σ210 := jI43_fr ((congrFun (f212 43 (of_decide_eq_true rfl)) 8).trans (congrFun (f24 43 (of_decide_eq_true rfl)) 8)) hI43
              have I280 : jI47 σ210 := jI47_fr ((congrFun (f212 47 (of_decide_eq_true rfl)) 0).trans (congrFun (f24 47 (of_decide_eq_true rfl)) 0)) ((f212 48 (of_decide_eq_true rfl)).trans (f24 48 (of_decide_eq_true rfl))) ((f212 49 (of_decide_eq_true rfl)).trans (f24 49 (of_decide_eq_true rfl))) hI47
              have I281 : jI50 σ210 := jI50_fr ((f212 52 (of_decide_eq_true rfl)).trans (f24 52 (of_decide_eq_true rfl))) hI50
              have I282 : jI103 σ210 := jI103_fr ((f213 9 (of_decide_eq_true rfl)).trans (congrFun (f24 55 (of_decide_eq_true rfl)) 9)) hI103
              have I283 : jI104 σ210 := jI104_fr ((f213 10 (of_decide_eq_true rfl)).trans (congrFun (f24 55 (of_decide_eq_true rfl)) 10)) ((f213 12 (of_decide_eq_true rfl)).trans (congrFun (f24 55 (of_decide_eq_true rfl)) 12)) ((f213 13 (of_decide_eq_true rfl)).trans (congrFun (f24 55 (of_decide_eq_true rfl)) 13)) ((f212 62 (of_decide_eq_true rfl)).trans (f24 62 (of_decide_eq_true rfl))) ((f212 67 (of_decide_eq_true rfl)).trans (f24 67 (of_decide_eq_true rfl))) hI104
              have I284 : jI105 σ210 := jI105_fr ((f213 15 (of_decide_eq_true rfl)).trans (congrFun (f24 55 (of_decide_eq_true rfl)) 15)) ((f212 65 (of_decide_eq_true rfl)).trans (f24 65 (of_decide_eq_true rfl))) hI105
              have I285 : jI106 σ210 := jI106_fr ((f213 32 (of_decide_eq_true rfl)).trans (congrFun (f24 55 (of_decide_eq_true rfl)) 32)) ((f212 70 (of_decide_eq_true rfl)).trans (f24 70 (of_decide_eq_true rfl))) ((f212 71 (of_decide_eq_true rfl)).trans (f24 71 (of_decide_eq_true rfl))) ((f212 72 (of_decide_eq_true rfl)).trans (f24 72 (of_decide_eq_true rfl))) hI106
              have I286 : jI107 σ210 := jI107_fr ((f213 12 (of_decide_eq_true rfl)).trans (congrFun (f24 55 (of_decide_eq_true rfl)) 12)) ((f213 47 (of_decide_eq_true rfl)).trans (congrFun (f24 55 (of_decide_eq_true rfl)) 47)) ((f212 80 (of_decide_eq_true rfl)).trans (f24 80 (of_decide_eq_true rfl))) hI107
              have I287 : jI109 σ210 := jI109_fr ((f213 50 (of_decide_eq_true rfl)).trans (congrFun (f24 55 (of_decide_eq_true rfl)) 50)) hI109
              have I288 : jI110 σ210 := jI110_fr ((f212 86 (of_decide_eq_true rfl)).trans (f24 86 (of_decide_eq_true rfl))) ((f212 87 (of_decide_eq_true rfl)).trans (f24 87 (of_decide_eq_true rfl))) hI110
              have I289 : jI111 σ210 := jI111_fr ((f212 79 (of_decide_eq_true rfl)).trans (f24 79 (of_decide_eq_true rfl))) hI111
              have I290 : jI119 σ210 := jI119_fr ((f212 68 (of_decide_eq_true rfl)).trans (f24 68 (of_decide_eq_true rfl))) hI119
              have p291 : jKept σ210 := jKept.fr ((f212 75 (of_decide_eq_true rfl)).trans (f24 75 (of_decide_eq_true rfl))) ((f212 76 (of_decide_eq_true rfl)).trans (f24 76 (of_decide_eq_true rfl))) ((f212 77 (of_decide_eq_true rfl)).trans (f24 77 (of_decide_eq_true rfl))) hs_jKept
              have p292 : jBook σ210 := jBook.fr ((f213 47 (of_decide_eq_true rfl)).trans (congrFun (f24 55 (of_decide_eq_true rfl)) 47)) ((f213 10 (of_decide_eq_true rfl)).trans (congrFun (f24 55 (of_decide_eq_true rfl)) 10)) ((f212 81 (of_decide_eq_true rfl)).trans (f24 81 (of_decide_eq_true rfl))) hs_jBook
              have z293 : (σ210 9 0).toInt = (σ 9 0).toInt := (congrArg Int32.toInt (show σ210 9 0 = (σ 9 0) from ((congrFun (f212 9 (of_decide_eq_true rfl)) 0).trans (congrFun (f24 9 (of_decide_eq_true rfl)) 0))))
              have z294 : (σ210 55 15).toInt = (σ 55 15).toInt := (congrArg Int32.toInt (show σ210 55 15 = (σ 55 15) from ((f213 15 (of_decide_eq_true rfl)).trans (congrFun (f24 55 (of_decide_eq_true rfl)) 15))))
              have z295 : (σ210 16 0).toInt = (σ 16 0).toInt := (congrArg Int32.toInt (show σ210 16 0 = (σ 16 0) from ((congrFun (f212 16 (of_decide_eq_true rfl)) 0).trans (congrFun (f24 16 (of_decide_eq_true rfl)) 0))))
              have z296 : (σ210 55 10).toInt = (σ 55 10).toInt := (congrArg Int32.toInt (show σ210 55 10 = (σ 55 10) from ((f213 10 (of_decide_eq_true rfl)).trans (congrFun (f24 55 (of_decide_eq_true rfl)) 10))))
              have z297 : (σ210 16 1).toInt = (σ 16 1).toInt := (congrArg Int32.toInt (show σ210 16 1 = (σ 16 1) from ((congrFun (f212 16 (of_decide_eq_true rfl)) 1).trans (congrFun (f24 16 (of_decide_eq_true rfl)) 1))))
              have z298 : (σ210 55 12).toInt = (σ 55 12).toInt := (congrArg Int32.toInt (show σ210 55 12 = (σ 55 12) from ((f213 12 (of_decide_eq_true rfl)).trans (congrFun (f24 55 (of_decide_eq_true rfl)) 12))))
              have z299 : (σ210 16 2).toInt = (σ 16 2).toInt := (congrArg Int32.toInt (show σ210 16 2 = (σ 16 2) from ((congrFun (f212 16 (of_decide_eq_true rfl)) 2).trans (congrFun (f24 16 (of_decide_eq_true rfl)) 2))))
              have z300 : (σ210 55 13).toInt = (σ 55 13).toInt := (congrArg Int32.toInt (show σ210 55 13 = (σ 55 13) from ((f213 13 (of_decide_eq_true rfl)).trans (congrFun (f24 55 (of_decide_eq_true rfl)) 13))))
              exact by exact ih x270 σ210 τ _ _ ls (by have h9 := tx270; omega) ⟨I271, I272, I273, I274, I275, I276, I277, I278, I279, I280, I281, I214, I215, I282, I283, I284, I285, I286, I287, I288, I289, I290, p291, p292, (by omega), (by omega), (by omega), (by omega), (show jTp (σ210 10) (σ210 63) (σ210 55 15).toInt by rw [show σ210 10 = σ 10 from ((f212 10 (of_decide_eq_true rfl)).trans (f24 10 (of_decide_eq_true rfl))), show σ210 63 = σ 63 from ((f212 63 (of_decide_eq_true rfl)).trans (f24 63 (of_decide_eq_true rfl)))]; exact hr0.le (by omega)), (show jSo (σ210 17) (σ210 62) (σ210 16 0).toInt by rw [show σ210 17 = σ 17 from ((f212 17 (of_decide_eq_true rfl)).trans (f24 17 (of_decide_eq_true rfl))), show σ210 62 = σ 62 from ((f212 62 (of_decide_eq_true rfl)).trans (f24 62 (of_decide_eq_true rfl))), show (σ210 16 0).toInt = (σ 16 0).toInt from by omega]; exact hr1)⟩ hP hS (lv_sub hl [0, 1, 2, 3] rfl)
set_option maxHeartbeats 4000000 in
set_option maxRecDepth 100000 in
theorem law_case_1 {p : Program} {e : Env} {s : State} {m : MethodId} {below : List Frame} {meth : Method} {c : Code} (l : Launch) {b L : Nat} {xs : Nat → Int32} {D : va_G} {cI cL : ClassId} {ad zz : Nat → Nat} (C0 : lw_At p s m meth c b L xs) (hJ : jD ad) (hA : ∀ q, jA ad q → s.heap.size ≤ q) (hK : jK D cI cL s) (hZ : jZ zz (fun q : Nat => s.heap.size ≤ q) s s.heap) {x0 : Int32} (hx0 : 0 ≤ x0.toInt) (hxL : x0.toInt + 6 ≤ (L : Int)) (hL : L ≤ 384) {σ : Nat → Nat → Int32} {τ : Nat → Nat → Int64} {H : Heap} {locs : List Loc} (hS : va_S (fun q : Nat => s.heap.size ≤ q) s.heap H locs) {ls : Array Slot} (hAll : jAll σ τ) (hP : jH D cI cL ad σ τ H) (hl : lv_has ls 4 [(3, .int x0), (2, .ref (ad 55)), (1, .ref (ad 0)), (0, .ref b)]) (ih : ∀ (x1 : Int32) (σ : Nat → Nat → Int32) (τ : Nat → Nat → Int64) (H : Heap) (locs : List Loc) (ls : Array Slot), x1.toInt = x0.toInt + 6 → jAll σ τ → jH D cI cL ad σ τ H → va_S (fun q : Nat => s.heap.size ≤ q) s.heap H locs → lv_has ls 4 [(3, .int x1), (2, .ref (ad 55)), (1, .ref (ad 0)), (0, .ref b)] → W p l e room_1 s m #[Value.ref b] below meth c H locs 90 348600 (lw_Z below #[Value.ref b] s) (F0 m 18 ls [])) : W p l e room_1 s m #[Value.ref b] below meth c H locs 90 348600 (lw_Z below #[Value.ref b] s) (F0 m 239 ls []) := by
  obtain ⟨hx, hb, hr, hml, hown, hts0, hX, hbl, hlocks, hgv⟩ := C0
  have hts : ∀ w ∈ wsL_law, w.before #[Value.ref b] s = true := fun w h => hts0 w (wsL_law_in w h)
  have hbA : ¬ (fun q : Nat => s.heap.size ≤ q) b := Nat.not_le.mpr hbl
  have hown : s.vm.findClass RL = some m.cls := hown
  obtain ⟨hI2, hI9, hI12, hI16, hI18, hI22, hI31, hI38, hI43, hI47, hI50, hI101, hI102, hI103, hI104, hI105, hI106, hI107, hI109, hI110, hI111, hI119, hs_jKept, hs_jBook, ht0, ht1, ht2, ht3, hr0, hr1⟩ := hAll
  have hL9 : (L : Int) ≤ 384 := by omega
  obtain ⟨i1, w2, w3⟩ : (0 ≤ (σ 9 0).toInt ∧ (σ 9 0).toInt ≤ 80) ∧ (∀ k : Nat, k < 80 → 0 ≤ (σ 10 k).toInt ∧ (σ 10 k).toInt ≤ 255) ∧ (∀ k : Nat, k < 8 → 0 ≤ (σ 11 k).toInt ∧ (σ 11 k).toInt ≤ 3) := id hI9
  obtain ⟨i4, i5, i6, w7⟩ : (1 ≤ (σ 16 0).toInt ∧ (σ 16 0).toInt ≤ 8) ∧ (1 ≤ (σ 16 1).toInt ∧ (σ 16 1).toInt ≤ 12) ∧ (0 ≤ (σ 16 2).toInt ∧ (σ 16 2).toInt ≤ 999) ∧ (∀ k : Nat, k < 8 → 0 ≤ (σ 17 k).toInt ∧ (σ 17 k).toInt ≤ 3) := id hI16
  obtain ⟨i8, i9, i10, w11, w12⟩ : (1 ≤ (σ 55 10).toInt ∧ (σ 55 10).toInt ≤ 8) ∧ (1 ≤ (σ 55 12).toInt ∧ (σ 55 12).toInt ≤ 12) ∧ (0 ≤ (σ 55 13).toInt ∧ (σ 55 13).toInt ≤ 999) ∧ (∀ k : Nat, k < 8 → 0 ≤ (σ 62 k).toInt ∧ (σ 62 k).toInt ≤ 3) ∧ (∀ k : Nat, k < 8 → 0 ≤ (σ 67 k).toInt ∧ (σ 67 k).toInt ≤ 3) := id hI104
  obtain ⟨i13, w14⟩ : (0 ≤ (σ 55 15).toInt ∧ (σ 55 15).toInt ≤ 80) ∧ (∀ k : Nat, k < 2 → (-1) ≤ (σ 65 k).toInt ∧ (σ 65 k).toInt ≤ 80) := id hI105
  refine lv_aload_n hx hb dL_law_239 rfl (lv_at hl 2 rfl) ?_
  refine lv_aload_n hx hb dL_law_240 rfl (lv_at hl 3 rfl) ?_
  refine lv_iload_n hx hb dL_law_241 rfl (lv_at hl 0 rfl) ?_
  refine lv_iconst (v := 1) hx hb dL_law_242 (of_decide_eq_true rfl) ?_
  have g15 := jrg (rfl : x0.toInt = x0.toInt)
  refine lv_iadd hx hb dL_law_243 ?_
  refine lv_topi (fun x16 ex16 => ?_)
  exact by
   have tx16 : x16.toInt = x0.toInt + 1 := (jadd ex16 rfl jz_1 (by omega) (by omega)).trans (by omega)
   refine va_sld hx hb hX hbl hbA hS (jin tx16 (by omega) (by omega)) dL_law_244 ?_
   have g17 := jrg (rfl : (xs x16.toNatClampNeg).toInt = (xs x16.toNatClampNeg).toInt)
   refine lv_aload_n hx hb dL_law_245 rfl (lv_at hl 3 rfl) ?_
   refine lv_iload_n hx hb dL_law_246 rfl (lv_at hl 0 rfl) ?_
   refine lv_iconst (v := 2) hx hb dL_law_247 (of_decide_eq_true rfl) ?_
   refine lv_iadd hx hb dL_law_248 ?_
   refine lv_topi (fun x18 ex18 => ?_)
   have tx18 : x18.toInt = x0.toInt + 2 := (jadd ex18 rfl jz_2 (by omega) (by omega)).trans (by omega)
   exact by
    refine va_sld hx hb hX hbl hbA hS (jin tx18 (by omega) (by omega)) dL_law_249 ?_
    have g19 := jrg (rfl : (xs x18.toNatClampNeg).toInt = (xs x18.toNatClampNeg).toInt)
    refine lv_aload_n hx hb dL_law_250 rfl (lv_at hl 3 rfl) ?_
    refine lv_iload_n hx hb dL_law_251 rfl (lv_at hl 0 rfl) ?_
    refine lv_iconst (v := 3) hx hb dL_law_252 (of_decide_eq_true rfl) ?_
    refine lv_iadd hx hb dL_law_253 ?_
    refine lv_topi (fun x20 ex20 => ?_)
    have tx20 : x20.toInt = x0.toInt + 3 := (jadd ex20 rfl jz_3 (by omega) (by omega)).trans (by omega)
    refine va_sld hx hb hX hbl hbA hS (jin tx20 (by omega) (by omega)) dL_law_254 ?_
    exact by
     have g21 := jrg (rfl : (xs x20.toNatClampNeg).toInt = (xs x20.toNatClampNeg).toInt)
     refine jcallV (As := [.int (xs x16.toNatClampNeg), .int (xs x18.toNatClampNeg), .int (xs x20.toNatClampNeg)]) (rest := []) ⟨hx, hb, hml, hown, hts⟩ hK hP hA hS hZ (c_X11_edge l D cI cL ad zz hJ σ τ (xs x16.toNatClampNeg) ((xs x16.toNatClampNeg).toInt) rfl (xs x18.toNatClampNeg) ((xs x18.toNatClampNeg).toInt) rfl (xs x20.toNatClampNeg) ((xs x20.toNatClampNeg).toInt) rfl hI2) cw_RL_18 (jc_0 cI cL ad σ τ) rfl ⟨Nat.le_of_ble_eq_true rfl, Nat.le_of_ble_eq_true rfl⟩ rfl rfl rfl hl.1 rfl (Nat.le_of_ble_eq_true rfl) dL_law_255 ⟨Nat.le_of_ble_eq_true rfl, Nat.le_of_ble_eq_true rfl⟩ (fun r23 σ22 τ22 H locs h22 hP hS => ?_)
     obtain ⟨rfl, f24, f25, I26, h22⟩ := h22
     rcases h22 with h28 | h29
     · obtain ⟨q34, k30, k31, k32, k33⟩ := h28
       have q34 := q34.symm
       subst q34
       refine lv_pop hx hb dL_law_258 rfl ?_
       refine lv_aload_n hx hb dL_law_259 rfl (lv_at hl 1 rfl) ?_
       refine lv_aload_n hx hb dL_law_260 rfl (lv_at hl 3 rfl) ?_
       refine lv_iload_n hx hb dL_law_261 rfl (lv_at hl 0 rfl) ?_
       refine lv_iconst (v := 1) hx hb dL_law_262 (of_decide_eq_true rfl) ?_
       refine lv_iadd hx hb dL_law_263 ?_
       refine jtopr ex16.symm ?_
       exact by
        refine va_sld hx hb hX hbl hbA hS (jin tx16 (by omega) (by omega)) dL_law_264 ?_
        refine lv_aload_n hx hb dL_law_265 rfl (lv_at hl 3 rfl) ?_
        refine lv_iload_n hx hb dL_law_266 rfl (lv_at hl 0 rfl) ?_
        refine lv_iconst (v := 2) hx hb dL_law_267 (of_decide_eq_true rfl) ?_
        refine lv_iadd hx hb dL_law_268 ?_
        refine jtopr ex18.symm ?_
        refine va_sld hx hb hX hbl hbA hS (jin tx18 (by omega) (by omega)) dL_law_269 ?_
        refine lv_aload_n hx hb dL_law_270 rfl (lv_at hl 3 rfl) ?_
        refine lv_iload_n hx hb dL_law_271 rfl (lv_at hl 0 rfl) ?_
        exact by
         refine lv_iconst (v := 3) hx hb dL_law_272 (of_decide_eq_true rfl) ?_
         refine lv_iadd hx hb dL_law_273 ?_
         refine jtopr ex20.symm ?_
         refine va_sld hx hb hX hbl hbA hS (jin tx20 (by omega) (by omega)) dL_law_274 ?_
         have I35 : jI101 σ22 := jI101_fr (congrFun (f24 55 (of_decide_eq_true rfl)) 4) (congrFun (f24 55 (of_decide_eq_true rfl)) 5) (f24 56 (of_decide_eq_true rfl)) (f24 57 (of_decide_eq_true rfl)) (f24 58 (of_decide_eq_true rfl)) (f24 59 (of_decide_eq_true rfl)) hI101
         have I36 : jI102 σ22 := jI102_fr (congrFun (f24 55 (of_decide_eq_true rfl)) 6) (f24 60 (of_decide_eq_true rfl)) (f24 61 (of_decide_eq_true rfl)) hI102
         have z37 : (σ22 55 5).toInt = (σ 55 5).toInt := (congrArg Int32.toInt (show σ22 55 5 = (σ 55 5) from (congrFun (f24 55 (of_decide_eq_true rfl)) 5)))
         have z38 : (σ22 55 4).toInt = (σ 55 4).toInt := (congrArg Int32.toInt (show σ22 55 4 = (σ 55 4) from (congrFun (f24 55 (of_decide_eq_true rfl)) 4)))
         refine jcallV (As := [.int (xs x16.toNatClampNeg), .int (xs x18.toNatClampNeg), .int (xs x20.toNatClampNeg)]) (rest := []) ⟨hx, hb, hml, hown, hts⟩ hK hP hA hS hZ (c_X12_edge l D cI cL ad zz hJ σ22 τ (xs x16.toNatClampNeg) ((xs x16.toNatClampNeg).toInt) rfl (xs x18.toNatClampNeg) ((xs x18.toNatClampNeg).toInt) rfl (xs x20.toNatClampNeg) ((xs x20.toNatClampNeg).toInt) rfl I35 I36) cw_RL_21 (jc_55 cI cL ad σ22 τ) rfl ⟨Nat.le_of_ble_eq_true rfl, Nat.le_of_ble_eq_true rfl⟩ rfl rfl rfl hl.1 rfl (Nat.le_of_ble_eq_true rfl) dL_law_275 ⟨Nat.le_of_ble_eq_true rfl, Nat.le_of_ble_eq_true rfl⟩ (fun r40 σ39 τ39 H locs h39 hP hS => ?_)
         exact by
          obtain ⟨rfl, f41, f42, I43, h39⟩ := h39
          rcases h39 with h45 | h46
          · obtain ⟨q51, k47, k48, k49, k50⟩ := h45
            have q51 := q51.symm
            subst q51
            refine lv_pop hx hb dL_law_278 rfl ?_
            refine lv_goto (tgt := 1357) hx hb dL_law_279 (of_decide_eq_true rfl) ?_
            obtain ⟨x52, ex52⟩ : ∃ y : Int32, y = x0 + 6 := ⟨_, rfl⟩
            have tx52 : x52.toInt = x0.toInt + 6 := (jadd ex52 rfl jz_6 (by omega) (by omega)).trans (by omega)
            exact by
             refine lv_iinc (v := x52) (lv' := [(3, .int x52), (2, .ref (ad 55)), (1, .ref (ad 0)), (0, .ref b)]) hx hb dL_law_1357 hl (k := 0) rfl (by rw [ex52]; rfl) (of_decide_eq_true rfl) rfl (fun ls hl => ?_)
             refine lv_goto (tgt := 18) hx hb dL_law_1360 (of_decide_eq_true rfl) ?_
             have I53 : jI2 σ39 := jI2_fr (congrFun (f41 2 (of_decide_eq_true rfl)) 0) (congrFun (f41 2 (of_decide_eq_true rfl)) 1) (congrFun (f41 2 (of_decide_eq_true rfl)) 2) (congrFun (f41 2 (of_decide_eq_true rfl)) 3) (f41 6 (of_decide_eq_true rfl)) I26
             have I54 : jI9 σ39 := jI9_fr ((congrFun (f41 9 (of_decide_eq_true rfl)) 0).trans (congrFun (f24 9 (of_decide_eq_true rfl)) 0)) ((f41 10 (of_decide_eq_true rfl)).trans (f24 10 (of_decide_eq_true rfl))) ((f41 11 (of_decide_eq_true rfl)).trans (f24 11 (of_decide_eq_true rfl))) hI9
             have I55 : jI12 σ39 := jI12_fr ((congrFun (f41 12 (of_decide_eq_true rfl)) 0).trans (congrFun (f24 12 (of_decide_eq_true rfl)) 0)) ((f41 13 (of_decide_eq_true rfl)).trans (f24 13 (of_decide_eq_true rfl))) hI12
             have I56 : jI16 σ39 := jI16_fr ((congrFun (f41 16 (of_decide_eq_true rfl)) 0).trans (congrFun (f24 16 (of_decide_eq_true rfl)) 0)) ((congrFun (f41 16 (of_decide_eq_true rfl)) 1).trans (congrFun (f24 16 (of_decide_eq_true rfl)) 1)) ((congrFun (f41 16 (of_decide_eq_true rfl)) 2).trans (congrFun (f24 16 (of_decide_eq_true rfl)) 2)) ((f41 17 (of_decide_eq_true rfl)).trans (f24 17 (of_decide_eq_true rfl))) hI16
             have I57 : jI18 σ39 := jI18_fr ((congrFun (f41 18 (of_decide_eq_true rfl)) 0).trans (congrFun (f24 18 (of_decide_eq_true rfl)) 0)) ((f41 19 (of_decide_eq_true rfl)).trans (f24 19 (of_decide_eq_true rfl))) hI18
             have I58 : jI22 σ39 := jI22_fr ((congrFun (f41 22 (of_decide_eq_true rfl)) 0).trans (congrFun (f24 22 (of_decide_eq_true rfl)) 0)) ((f41 23 (of_decide_eq_true rfl)).trans (f24 23 (of_decide_eq_true rfl))) hI22
             have I59 : jI31 σ39 := jI31_fr ((congrFun (f41 31 (of_decide_eq_true rfl)) 8).trans (congrFun (f24 31 (of_decide_eq_true rfl)) 8)) ((f41 33 (of_decide_eq_true rfl)).trans (f24 33 (of_decide_eq_true rfl))) ((f41 36 (of_decide_eq_true rfl)).trans (f24 36 (of_decide_eq_true rfl))) hI31
             have I60 : jI38 σ39 := jI38_fr ((congrFun (f41 38 (of_decide_eq_true rfl)) 0).trans (congrFun (f24 38 (of_decide_eq_true rfl)) 0)) ((congrFun (f41 38 (of_decide_eq_true rfl)) 1).trans (congrFun (f24 38 (of_decide_eq_true rfl)) 1)) ((f41 39 (of_decide_eq_true rfl)).trans (f24 39 (of_decide_eq_true rfl))) hI38
             have I61 : jI43 σ39 := jI43_fr ((congrFun (f41 43 (of_decide_eq_true rfl)) 8).trans (congrFun (f24 43 (of_decide_eq_true rfl)) 8)) hI43
             have I62 : jI47 σ39 := jI47_fr ((congrFun (f41 47 (of_decide_eq_true rfl)) 0).trans (congrFun (f24 47 (of_decide_eq_true rfl)) 0)) ((f41 48 (of_decide_eq_true rfl)).trans (f24 48 (of_decide_eq_true rfl))) ((f41 49 (of_decide_eq_true rfl)).trans (f24 49 (of_decide_eq_true rfl))) hI47
             have I63 : jI50 σ39 := jI50_fr ((f41 52 (of_decide_eq_true rfl)).trans (f24 52 (of_decide_eq_true rfl))) hI50
             have I64 : jI102 σ39 := jI102_fr (f42 6 (of_decide_eq_true rfl)) (f41 60 (of_decide_eq_true rfl)) (f41 61 (of_decide_eq_true rfl)) I36
             have I65 : jI103 σ39 := jI103_fr ((f42 9 (of_decide_eq_true rfl)).trans (congrFun (f24 55 (of_decide_eq_true rfl)) 9)) hI103
             have I66 : jI104 σ39 := jI104_fr ((f42 10 (of_decide_eq_true rfl)).trans (congrFun (f24 55 (of_decide_eq_true rfl)) 10)) ((f42 12 (of_decide_eq_true rfl)).trans (congrFun (f24 55 (of_decide_eq_true rfl)) 12)) ((f42 13 (of_decide_eq_true rfl)).trans (congrFun (f24 55 (of_decide_eq_true rfl)) 13)) ((f41 62 (of_decide_eq_true rfl)).trans (f24 62 (of_decide_eq_true rfl))) ((f41 67 (of_decide_eq_true rfl)).trans (f24 67 (of_decide_eq_true rfl))) hI104
             have I67 : jI105 σ39 := jI105_fr ((f42 15 (of_decide_eq_true rfl)).trans (congrFun (f24 55 (of_decide_eq_true rfl)) 15)) ((f41 65 (of_decide_eq_true rfl)).trans (f24 65 (of_decide_eq_true rfl))) hI105
             have I68 : jI106 σ39 := jI106_fr ((f42 32 (of_decide_eq_true rfl)).trans (congrFun (f24 55 (of_decide_eq_true rfl)) 32)) ((f41 70 (of_decide_eq_true rfl)).trans (f24 70 (of_decide_eq_true rfl))) ((f41 71 (of_decide_eq_true rfl)).trans (f24 71 (of_decide_eq_true rfl))) ((f41 72 (of_decide_eq_true rfl)).trans (f24 72 (of_decide_eq_true rfl))) hI106
             have I69 : jI107 σ39 := jI107_fr ((f42 12 (of_decide_eq_true rfl)).trans (congrFun (f24 55 (of_decide_eq_true rfl)) 12)) ((f42 47 (of_decide_eq_true rfl)).trans (congrFun (f24 55 (of_decide_eq_true rfl)) 47)) ((f41 80 (of_decide_eq_true rfl)).trans (f24 80 (of_decide_eq_true rfl))) hI107
             have I70 : jI109 σ39 := jI109_fr ((f42 50 (of_decide_eq_true rfl)).trans (congrFun (f24 55 (of_decide_eq_true rfl)) 50)) hI109
             have I71 : jI110 σ39 := jI110_fr ((f41 86 (of_decide_eq_true rfl)).trans (f24 86 (of_decide_eq_true rfl))) ((f41 87 (of_decide_eq_true rfl)).trans (f24 87 (of_decide_eq_true rfl))) hI110
             have I72 : jI111 σ39 := jI111_fr ((f41 79 (of_decide_eq_true rfl)).trans (f24 79 (of_decide_eq_true rfl))) hI111
             have I73 : jI119 σ39 := jI119_fr ((f41 68 (of_decide_eq_true rfl)).trans (f24 68 (of_decide_eq_true rfl))) hI119
             have p74 : jKept σ39 := jKept.fr ((f41 75 (of_decide_eq_true rfl)).trans (f24 75 (of_decide_eq_true rfl))) ((f41 76 (of_decide_eq_true rfl)).trans (f24 76 (of_decide_eq_true rfl))) ((f41 77 (of_decide_eq_true rfl)).trans (f24 77 (of_decide_eq_true rfl))) hs_jKept
             have p75 : jBook σ39 := jBook.fr ((f42 47 (of_decide_eq_true rfl)).trans (congrFun (f24 55 (of_decide_eq_true rfl)) 47)) ((f42 10 (of_decide_eq_true rfl)).trans (congrFun (f24 55 (of_decide_eq_true rfl)) 10)) ((f41 81 (of_decide_eq_true rfl)).trans (f24 81 (of_decide_eq_true rfl))) hs_jBook
             have z76 : (σ39 9 0).toInt = (σ 9 0).toInt := (congrArg Int32.toInt (show σ39 9 0 = (σ 9 0) from ((congrFun (f41 9 (of_decide_eq_true rfl)) 0).trans (congrFun (f24 9 (of_decide_eq_true rfl)) 0))))
             have z77 : (σ39 55 15).toInt = (σ 55 15).toInt := (congrArg Int32.toInt (show σ39 55 15 = (σ 55 15) from ((f42 15 (of_decide_eq_true rfl)).trans (congrFun (f24 55 (of_decide_eq_true rfl)) 15))))
             have z78 : (σ39 16 0).toInt = (σ 16 0).toInt := (congrArg Int32.toInt (show σ39 16 0 = (σ 16 0) from ((congrFun (f41 16 (of_decide_eq_true rfl)) 0).trans (congrFun (f24 16 (of_decide_eq_true rfl)) 0))))
             have z79 : (σ39 55 10).toInt = (σ 55 10).toInt := (congrArg Int32.toInt (show σ39 55 10 = (σ 55 10) from ((f42 10 (of_decide_eq_true rfl)).trans (congrFun (f24 55 (of_decide_eq_true rfl)) 10))))
             have z80 : (σ39 16 1).toInt = (σ 16 1).toInt := (congrArg Int32.toInt (show σ39 16 1 = (σ 16 1) from ((congrFun (f41 16 (of_decide_eq_true rfl)) 1).trans (congrFun (f24 16 (of_decide_eq_true rfl)) 1))))
             have z81 : (σ39 55 12).toInt = (σ 55 12).toInt := (congrArg Int32.toInt (show σ39 55 12 = (σ 55 12) from ((f42 12 (of_decide_eq_true rfl)).trans (congrFun (f24 55 (of_decide_eq_true rfl)) 12))))
             have z82 : (σ39 16 2).toInt = (σ 16 2).toInt := (congrArg Int32.toInt (show σ39 16 2 = (σ 16 2) from ((congrFun (f41 16 (of_decide_eq_true rfl)) 2).trans (congrFun (f24 16 (of_decide_eq_true rfl)) 2))))
             have z83 : (σ39 55 13).toInt = (σ 55 13).toInt := (congrArg Int32.toInt (show σ39 55 13 = (σ 55 13) from ((f42 13 (of_decide_eq_true rfl)).trans (congrFun (f24 55 (of_decide_eq_true rfl)) 13))))
             exact by exact ih x52 σ39 τ _ _ ls (by have h9 := tx52; omega) ⟨I53, I54, I55, I56, I57, I58, I59, I60, I61, I62, I63, I43, I64, I65, I66, I67, I68, I69, I70, I71, I72, I73, p74, p75, (by omega), (by omega), (by omega), (by omega), (show jTp (σ39 10) (σ39 63) (σ39 55 15).toInt by rw [show σ39 10 = σ 10 from ((f41 10 (of_decide_eq_true rfl)).trans (f24 10 (of_decide_eq_true rfl))), show σ39 63 = σ 63 from ((f41 63 (of_decide_eq_true rfl)).trans (f24 63 (of_decide_eq_true rfl)))]; exact hr0.le (by omega)), (show jSo (σ39 17) (σ39 62) (σ39 16 0).toInt by rw [show σ39 17 = σ 17 from ((f41 17 (of_decide_eq_true rfl)).trans (f24 17 (of_decide_eq_true rfl))), show σ39 62 = σ 62 from ((f41 62 (of_decide_eq_true rfl)).trans (f24 62 (of_decide_eq_true rfl))), show (σ39 16 0).toInt = (σ 16 0).toInt from by omega]; exact hr1)⟩ hP hS (lv_sub hl [0, 1, 2, 3] rfl)
          · obtain ⟨q85, k84⟩ := h46
            refine lv_pop hx hb dL_law_278 rfl ?_
            refine lv_goto (tgt := 1357) hx hb dL_law_279 (of_decide_eq_true rfl) ?_
            obtain ⟨x86, ex86⟩ : ∃ y : Int32, y = x0 + 6 := ⟨_, rfl⟩
            exact by
             have tx86 : x86.toInt = x0.toInt + 6 := (jadd ex86 rfl jz_6 (by omega) (by omega)).trans (by omega)
             refine lv_iinc (v := x86) (lv' := [(3, .int x86), (2, .ref (ad 55)), (1, .ref (ad 0)), (0, .ref b)]) hx hb dL_law_1357 hl (k := 0) rfl (by rw [ex86]; rfl) (of_decide_eq_true rfl) rfl (fun ls hl => ?_)
             refine lv_goto (tgt := 18) hx hb dL_law_1360 (of_decide_eq_true rfl) ?_
             have I87 : jI2 σ39 := jI2_fr (congrFun (f41 2 (of_decide_eq_true rfl)) 0) (congrFun (f41 2 (of_decide_eq_true rfl)) 1) (congrFun (f41 2 (of_decide_eq_true rfl)) 2) (congrFun (f41 2 (of_decide_eq_true rfl)) 3) (f41 6 (of_decide_eq_true rfl)) I26
             have I88 : jI9 σ39 := jI9_fr ((congrFun (f41 9 (of_decide_eq_true rfl)) 0).trans (congrFun (f24 9 (of_decide_eq_true rfl)) 0)) ((f41 10 (of_decide_eq_true rfl)).trans (f24 10 (of_decide_eq_true rfl))) ((f41 11 (of_decide_eq_true rfl)).trans (f24 11 (of_decide_eq_true rfl))) hI9
             have I89 : jI12 σ39 := jI12_fr ((congrFun (f41 12 (of_decide_eq_true rfl)) 0).trans (congrFun (f24 12 (of_decide_eq_true rfl)) 0)) ((f41 13 (of_decide_eq_true rfl)).trans (f24 13 (of_decide_eq_true rfl))) hI12
             have I90 : jI16 σ39 := jI16_fr ((congrFun (f41 16 (of_decide_eq_true rfl)) 0).trans (congrFun (f24 16 (of_decide_eq_true rfl)) 0)) ((congrFun (f41 16 (of_decide_eq_true rfl)) 1).trans (congrFun (f24 16 (of_decide_eq_true rfl)) 1)) ((congrFun (f41 16 (of_decide_eq_true rfl)) 2).trans (congrFun (f24 16 (of_decide_eq_true rfl)) 2)) ((f41 17 (of_decide_eq_true rfl)).trans (f24 17 (of_decide_eq_true rfl))) hI16
             have I91 : jI18 σ39 := jI18_fr ((congrFun (f41 18 (of_decide_eq_true rfl)) 0).trans (congrFun (f24 18 (of_decide_eq_true rfl)) 0)) ((f41 19 (of_decide_eq_true rfl)).trans (f24 19 (of_decide_eq_true rfl))) hI18
             have I92 : jI22 σ39 := jI22_fr ((congrFun (f41 22 (of_decide_eq_true rfl)) 0).trans (congrFun (f24 22 (of_decide_eq_true rfl)) 0)) ((f41 23 (of_decide_eq_true rfl)).trans (f24 23 (of_decide_eq_true rfl))) hI22
             exact by
              have I93 : jI31 σ39 := jI31_fr ((congrFun (f41 31 (of_decide_eq_true rfl)) 8).trans (congrFun (f24 31 (of_decide_eq_true rfl)) 8)) ((f41 33 (of_decide_eq_true rfl)).trans (f24 33 (of_decide_eq_true rfl))) ((f41 36 (of_decide_eq_true rfl)).trans (f24 36 (of_decide_eq_true rfl))) hI31
              have I94 : jI38 σ39 := jI38_fr ((congrFun (f41 38 (of_decide_eq_true rfl)) 0).trans (congrFun (f24 38 (of_decide_eq_true rfl)) 0)) ((congrFun (f41 38 (of_decide_eq_true rfl)) 1).trans (congrFun (f24 38 (of_decide_eq_true rfl)) 1)) ((f41 39 (of_decide_eq_true rfl)).trans (f24 39 (of_decide_eq_true rfl))) hI38
              have I95 : jI43 σ39 := jI43_fr ((congrFun (f41 43 (of_decide_eq_true rfl)) 8).trans (congrFun (f24 43 (of_decide_eq_true rfl)) 8)) hI43
              have I96 : jI47 σ39 := jI47_fr ((congrFun (f41 47 (of_decide_eq_true rfl)) 0).trans (congrFun (f24 47 (of_decide_eq_true rfl)) 0)) ((f41 48 (of_decide_eq_true rfl)).trans (f24 48 (of_decide_eq_true rfl))) ((f41 49 (of_decide_eq_true rfl)).trans (f24 49 (of_decide_eq_true rfl))) hI47
              have I97 : jI50 σ39 := jI50_fr ((f41 52 (of_decide_eq_true rfl)).trans (f24 52 (of_decide_eq_true rfl))) hI50
              have I98 : jI102 σ39 := jI102_fr (f42 6 (of_decide_eq_true rfl)) (f41 60 (of_decide_eq_true rfl)) (f41 61 (of_decide_eq_true rfl)) I36
              have I99 : jI103 σ39 := jI103_fr ((f42 9 (of_decide_eq_true rfl)).trans (congrFun (f24 55 (of_decide_eq_true rfl)) 9)) hI103
              have I100 : jI104 σ39 := jI104_fr ((f42 10 (of_decide_eq_true rfl)).trans (congrFun (f24 55 (of_decide_eq_true rfl)) 10)) ((f42 12 (of_decide_eq_true rfl)).trans (congrFun (f24 55 (of_decide_eq_true rfl)) 12)) ((f42 13 (of_decide_eq_true rfl)).trans (congrFun (f24 55 (of_decide_eq_true rfl)) 13)) ((f41 62 (of_decide_eq_true rfl)).trans (f24 62 (of_decide_eq_true rfl))) ((f41 67 (of_decide_eq_true rfl)).trans (f24 67 (of_decide_eq_true rfl))) hI104
              have I101 : jI105 σ39 := jI105_fr ((f42 15 (of_decide_eq_true rfl)).trans (congrFun (f24 55 (of_decide_eq_true rfl)) 15)) ((f41 65 (of_decide_eq_true rfl)).trans (f24 65 (of_decide_eq_true rfl))) hI105
              have I102 : jI106 σ39 := jI106_fr ((f42 32 (of_decide_eq_true rfl)).trans (congrFun (f24 55 (of_decide_eq_true rfl)) 32)) ((f41 70 (of_decide_eq_true rfl)).trans (f24 70 (of_decide_eq_true rfl))) ((f41 71 (of_decide_eq_true rfl)).trans (f24 71 (of_decide_eq_true rfl))) ((f41 72 (of_decide_eq_true rfl)).trans (f24 72 (of_decide_eq_true rfl))) hI106
              have I103 : jI107 σ39 := jI107_fr ((f42 12 (of_decide_eq_true rfl)).trans (congrFun (f24 55 (of_decide_eq_true rfl)) 12)) ((f42 47 (of_decide_eq_true rfl)).trans (congrFun (f24 55 (of_decide_eq_true rfl)) 47)) ((f41 80 (of_decide_eq_true rfl)).trans (f24 80 (of_decide_eq_true rfl))) hI107
              have I104 : jI109 σ39 := jI109_fr ((f42 50 (of_decide_eq_true rfl)).trans (congrFun (f24 55 (of_decide_eq_true rfl)) 50)) hI109
              have I105 : jI110 σ39 := jI110_fr ((f41 86 (of_decide_eq_true rfl)).trans (f24 86 (of_decide_eq_true rfl))) ((f41 87 (of_decide_eq_true rfl)).trans (f24 87 (of_decide_eq_true rfl))) hI110
              have I106 : jI111 σ39 := jI111_fr ((f41 79 (of_decide_eq_true rfl)).trans (f24 79 (of_decide_eq_true rfl))) hI111
              have I107 : jI119 σ39 := jI119_fr ((f41 68 (of_decide_eq_true rfl)).trans (f24 68 (of_decide_eq_true rfl))) hI119
              have p108 : jKept σ39 := jKept.fr ((f41 75 (of_decide_eq_true rfl)).trans (f24 75 (of_decide_eq_true rfl))) ((f41 76 (of_decide_eq_true rfl)).trans (f24 76 (of_decide_eq_true rfl))) ((f41 77 (of_decide_eq_true rfl)).trans (f24 77 (of_decide_eq_true rfl))) hs_jKept
              have p109 : jBook σ39 := jBook.fr ((f42 47 (of_decide_eq_true rfl)).trans (congrFun (f24 55 (of_decide_eq_true rfl)) 47)) ((f42 10 (of_decide_eq_true rfl)).trans (congrFun (f24 55 (of_decide_eq_true rfl)) 10)) ((f41 81 (of_decide_eq_true rfl)).trans (f24 81 (of_decide_eq_true rfl))) hs_jBook
              have z110 : (σ39 9 0).toInt = (σ 9 0).toInt := (congrArg Int32.toInt (show σ39 9 0 = (σ 9 0) from ((congrFun (f41 9 (of_decide_eq_true rfl)) 0).trans (congrFun (f24 9 (of_decide_eq_true rfl)) 0))))
              have z111 : (σ39 55 15).toInt = (σ 55 15).toInt := (congrArg Int32.toInt (show σ39 55 15 = (σ 55 15) from ((f42 15 (of_decide_eq_true rfl)).trans (congrFun (f24 55 (of_decide_eq_true rfl)) 15))))
              have z112 : (σ39 16 0).toInt = (σ 16 0).toInt := (congrArg Int32.toInt (show σ39 16 0 = (σ 16 0) from ((congrFun (f41 16 (of_decide_eq_true rfl)) 0).trans (congrFun (f24 16 (of_decide_eq_true rfl)) 0))))
              have z113 : (σ39 55 10).toInt = (σ 55 10).toInt := (congrArg Int32.toInt (show σ39 55 10 = (σ 55 10) from ((f42 10 (of_decide_eq_true rfl)).trans (congrFun (f24 55 (of_decide_eq_true rfl)) 10))))
              have z114 : (σ39 16 1).toInt = (σ 16 1).toInt := (congrArg Int32.toInt (show σ39 16 1 = (σ 16 1) from ((congrFun (f41 16 (of_decide_eq_true rfl)) 1).trans (congrFun (f24 16 (of_decide_eq_true rfl)) 1))))
              have z115 : (σ39 55 12).toInt = (σ 55 12).toInt := (congrArg Int32.toInt (show σ39 55 12 = (σ 55 12) from ((f42 12 (of_decide_eq_true rfl)).trans (congrFun (f24 55 (of_decide_eq_true rfl)) 12))))
              have z116 : (σ39 16 2).toInt = (σ 16 2).toInt := (congrArg Int32.toInt (show σ39 16 2 = (σ 16 2) from ((congrFun (f41 16 (of_decide_eq_true rfl)) 2).trans (congrFun (f24 16 (of_decide_eq_true rfl)) 2))))
              have z117 : (σ39 55 13).toInt = (σ 55 13).toInt := (congrArg Int32.toInt (show σ39 55 13 = (σ 55 13) from ((f42 13 (of_decide_eq_true rfl)).trans (congrFun (f24 55 (of_decide_eq_true rfl)) 13))))
              exact by exact ih x86 σ39 τ _ _ ls (by have h9 := tx86; omega) ⟨I87, I88, I89, I90, I91, I92, I93, I94, I95, I96, I97, I43, I98, I99, I100, I101, I102, I103, I104, I105, I106, I107, p108, p109, (by omega), (by omega), (by omega), (by omega), (show jTp (σ39 10) (σ39 63) (σ39 55 15).toInt by rw [show σ39 10 = σ 10 from ((f41 10 (of_decide_eq_true rfl)).trans (f24 10 (of_decide_eq_true rfl))), show σ39 63 = σ 63 from ((f41 63 (of_decide_eq_true rfl)).trans (f24 63 (of_decide_eq_true rfl)))]; exact hr0.le (by omega)), (show jSo (σ39 17) (σ39 62) (σ39 16 0).toInt by rw [show σ39 17 = σ 17 from ((f41 17 (of_decide_eq_true rfl)).trans (f24 17 (of_decide_eq_true rfl))), show σ39 62 = σ 62 from ((f41 62 (of_decide_eq_true rfl)).trans (f24 62 (of_decide_eq_true rfl))), show (σ39 16 0).toInt = (σ 16 0).toInt from by omega]; exact hr1)⟩ hP hS (lv_sub hl [0, 1, 2, 3] rfl)
     · obtain ⟨q119, k118⟩ := h29
       refine lv_pop hx hb dL_law_258 rfl ?_
       refine lv_aload_n hx hb dL_law_259 rfl (lv_at hl 1 rfl) ?_
       refine lv_aload_n hx hb dL_law_260 rfl (lv_at hl 3 rfl) ?_
       refine lv_iload_n hx hb dL_law_261 rfl (lv_at hl 0 rfl) ?_
       refine lv_iconst (v := 1) hx hb dL_law_262 (of_decide_eq_true rfl) ?_
       refine lv_iadd hx hb dL_law_263 ?_
       refine jtopr ex16.symm ?_
       exact by
        refine va_sld hx hb hX hbl hbA hS (jin tx16 (by omega) (by omega)) dL_law_264 ?_
        refine lv_aload_n hx hb dL_law_265 rfl (lv_at hl 3 rfl) ?_
        refine lv_iload_n hx hb dL_law_266 rfl (lv_at hl 0 rfl) ?_
        refine lv_iconst (v := 2) hx hb dL_law_267 (of_decide_eq_true rfl) ?_
        refine lv_iadd hx hb dL_law_268 ?_
        refine jtopr ex18.symm ?_
        refine va_sld hx hb hX hbl hbA hS (jin tx18 (by omega) (by omega)) dL_law_269 ?_
        refine lv_aload_n hx hb dL_law_270 rfl (lv_at hl 3 rfl) ?_
        refine lv_iload_n hx hb dL_law_271 rfl (lv_at hl 0 rfl) ?_
        exact by
         refine lv_iconst (v := 3) hx hb dL_law_272 (of_decide_eq_true rfl) ?_
         refine lv_iadd hx hb dL_law_273 ?_
         refine jtopr ex20.symm ?_
         refine va_sld hx hb hX hbl hbA hS (jin tx20 (by omega) (by omega)) dL_law_274 ?_
         have I120 : jI101 σ22 := jI101_fr (congrFun (f24 55 (of_decide_eq_true rfl)) 4) (congrFun (f24 55 (of_decide_eq_true rfl)) 5) (f24 56 (of_decide_eq_true rfl)) (f24 57 (of_decide_eq_true rfl)) (f24 58 (of_decide_eq_true rfl)) (f24 59 (of_decide_eq_true rfl)) hI101
         have I121 : jI102 σ22 := jI102_fr (congrFun (f24 55 (of_decide_eq_true rfl)) 6) (f24 60 (of_decide_eq_true rfl)) (f24 61 (of_decide_eq_true rfl)) hI102
         have z122 : (σ22 55 5).toInt = (σ 55 5).toInt := (congrArg Int32.toInt (show σ22 55 5 = (σ 55 5) from (congrFun (f24 55 (of_decide_eq_true rfl)) 5)))
         have z123 : (σ22 55 4).toInt = (σ 55 4).toInt := (congrArg Int32.toInt (show σ22 55 4 = (σ 55 4) from (congrFun (f24 55 (of_decide_eq_true rfl)) 4)))
         refine jcallV (As := [.int (xs x16.toNatClampNeg), .int (xs x18.toNatClampNeg), .int (xs x20.toNatClampNeg)]) (rest := []) ⟨hx, hb, hml, hown, hts⟩ hK hP hA hS hZ (c_X12_edge l D cI cL ad zz hJ σ22 τ (xs x16.toNatClampNeg) ((xs x16.toNatClampNeg).toInt) rfl (xs x18.toNatClampNeg) ((xs x18.toNatClampNeg).toInt) rfl (xs x20.toNatClampNeg) ((xs x20.toNatClampNeg).toInt) rfl I120 I121) cw_RL_21 (jc_55 cI cL ad σ22 τ) rfl ⟨Nat.le_of_ble_eq_true rfl, Nat.le_of_ble_eq_true rfl⟩ rfl rfl rfl hl.1 rfl (Nat.le_of_ble_eq_true rfl) dL_law_275 ⟨Nat.le_of_ble_eq_true rfl, Nat.le_of_ble_eq_true rfl⟩ (fun r125 σ124 τ124 H locs h124 hP hS => ?_)
         exact by
          obtain ⟨rfl, f126, f127, I128, h124⟩ := h124
          rcases h124 with h130 | h131
          · obtain ⟨q136, k132, k133, k134, k135⟩ := h130
            have q136 := q136.symm
            subst q136
            refine lv_pop hx hb dL_law_278 rfl ?_
            refine lv_goto (tgt := 1357) hx hb dL_law_279 (of_decide_eq_true rfl) ?_
            obtain ⟨x137, ex137⟩ : ∃ y : Int32, y = x0 + 6 := ⟨_, rfl⟩
            have tx137 : x137.toInt = x0.toInt + 6 := (jadd ex137 rfl jz_6 (by omega) (by omega)).trans (by omega)
            exact by
             refine lv_iinc (v := x137) (lv' := [(3, .int x137), (2, .ref (ad 55)), (1, .ref (ad 0)), (0, .ref b)]) hx hb dL_law_1357 hl (k := 0) rfl (by rw [ex137]; rfl) (of_decide_eq_true rfl) rfl (fun ls hl => ?_)
             refine lv_goto (tgt := 18) hx hb dL_law_1360 (of_decide_eq_true rfl) ?_
             have I138 : jI2 σ124 := jI2_fr (congrFun (f126 2 (of_decide_eq_true rfl)) 0) (congrFun (f126 2 (of_decide_eq_true rfl)) 1) (congrFun (f126 2 (of_decide_eq_true rfl)) 2) (congrFun (f126 2 (of_decide_eq_true rfl)) 3) (f126 6 (of_decide_eq_true rfl)) I26
             have I139 : jI9 σ124 := jI9_fr ((congrFun (f126 9 (of_decide_eq_true rfl)) 0).trans (congrFun (f24 9 (of_decide_eq_true rfl)) 0)) ((f126 10 (of_decide_eq_true rfl)).trans (f24 10 (of_decide_eq_true rfl))) ((f126 11 (of_decide_eq_true rfl)).trans (f24 11 (of_decide_eq_true rfl))) hI9
             have I140 : jI12 σ124 := jI12_fr ((congrFun (f126 12 (of_decide_eq_true rfl)) 0).trans (congrFun (f24 12 (of_decide_eq_true rfl)) 0)) ((f126 13 (of_decide_eq_true rfl)).trans (f24 13 (of_decide_eq_true rfl))) hI12
             have I141 : jI16 σ124 := jI16_fr ((congrFun (f126 16 (of_decide_eq_true rfl)) 0).trans (congrFun (f24 16 (of_decide_eq_true rfl)) 0)) ((congrFun (f126 16 (of_decide_eq_true rfl)) 1).trans (congrFun (f24 16 (of_decide_eq_true rfl)) 1)) ((congrFun (f126 16 (of_decide_eq_true rfl)) 2).trans (congrFun (f24 16 (of_decide_eq_true rfl)) 2)) ((f126 17 (of_decide_eq_true rfl)).trans (f24 17 (of_decide_eq_true rfl))) hI16
             have I142 : jI18 σ124 := jI18_fr ((congrFun (f126 18 (of_decide_eq_true rfl)) 0).trans (congrFun (f24 18 (of_decide_eq_true rfl)) 0)) ((f126 19 (of_decide_eq_true rfl)).trans (f24 19 (of_decide_eq_true rfl))) hI18
             have I143 : jI22 σ124 := jI22_fr ((congrFun (f126 22 (of_decide_eq_true rfl)) 0).trans (congrFun (f24 22 (of_decide_eq_true rfl)) 0)) ((f126 23 (of_decide_eq_true rfl)).trans (f24 23 (of_decide_eq_true rfl))) hI22
             have I144 : jI31 σ124 := jI31_fr ((congrFun (f126 31 (of_decide_eq_true rfl)) 8).trans (congrFun (f24 31 (of_decide_eq_true rfl)) 8)) ((f126 33 (of_decide_eq_true rfl)).trans (f24 33 (of_decide_eq_true rfl))) ((f126 36 (of_decide_eq_true rfl)).trans (f24 36 (of_decide_eq_true rfl))) hI31
             have I145 : jI38 σ124 := jI38_fr ((congrFun (f126 38 (of_decide_eq_true rfl)) 0).trans (congrFun (f24 38 (of_decide_eq_true rfl)) 0)) ((congrFun (f126 38 (of_decide_eq_true rfl)) 1).trans (congrFun (f24 38 (of_decide_eq_true rfl)) 1)) ((f126 39 (of_decide_eq_true rfl)).trans (f24 39 (of_decide_eq_true rfl))) hI38
             have I146 : jI43 σ124 := jI43_fr ((congrFun (f126 43 (of_decide_eq_true rfl)) 8).trans (congrFun (f24 43 (of_decide_eq_true rfl)) 8)) hI43
             have I147 : jI47 σ124 := jI47_fr ((congrFun (f126 47 (of_decide_eq_true rfl)) 0).trans (congrFun (f24 47 (of_decide_eq_true rfl)) 0)) ((f126 48 (of_decide_eq_true rfl)).trans (f24 48 (of_decide_eq_true rfl))) ((f126 49 (of_decide_eq_true rfl)).trans (f24 49 (of_decide_eq_true rfl))) hI47
             have I148 : jI50 σ124 := jI50_fr ((f126 52 (of_decide_eq_true rfl)).trans (f24 52 (of_decide_eq_true rfl))) hI50
             have I149 : jI102 σ124 := jI102_fr (f127 6 (of_decide_eq_true rfl)) (f126 60 (of_decide_eq_true rfl)) (f126 61 (of_decide_eq_true rfl)) I121
             have I150 : jI103 σ124 := jI103_fr ((f127 9 (of_decide_eq_true rfl)).trans (congrFun (f24 55 (of_decide_eq_true rfl)) 9)) hI103
             have I151 : jI104 σ124 := jI104_fr ((f127 10 (of_decide_eq_true rfl)).trans (congrFun (f24 55 (of_decide_eq_true rfl)) 10)) ((f127 12 (of_decide_eq_true rfl)).trans (congrFun (f24 55 (of_decide_eq_true rfl)) 12)) ((f127 13 (of_decide_eq_true rfl)).trans (congrFun (f24 55 (of_decide_eq_true rfl)) 13)) ((f126 62 (of_decide_eq_true rfl)).trans (f24 62 (of_decide_eq_true rfl))) ((f126 67 (of_decide_eq_true rfl)).trans (f24 67 (of_decide_eq_true rfl))) hI104
             have I152 : jI105 σ124 := jI105_fr ((f127 15 (of_decide_eq_true rfl)).trans (congrFun (f24 55 (of_decide_eq_true rfl)) 15)) ((f126 65 (of_decide_eq_true rfl)).trans (f24 65 (of_decide_eq_true rfl))) hI105
             have I153 : jI106 σ124 := jI106_fr ((f127 32 (of_decide_eq_true rfl)).trans (congrFun (f24 55 (of_decide_eq_true rfl)) 32)) ((f126 70 (of_decide_eq_true rfl)).trans (f24 70 (of_decide_eq_true rfl))) ((f126 71 (of_decide_eq_true rfl)).trans (f24 71 (of_decide_eq_true rfl))) ((f126 72 (of_decide_eq_true rfl)).trans (f24 72 (of_decide_eq_true rfl))) hI106
             have I154 : jI107 σ124 := jI107_fr ((f127 12 (of_decide_eq_true rfl)).trans (congrFun (f24 55 (of_decide_eq_true rfl)) 12)) ((f127 47 (of_decide_eq_true rfl)).trans (congrFun (f24 55 (of_decide_eq_true rfl)) 47)) ((f126 80 (of_decide_eq_true rfl)).trans (f24 80 (of_decide_eq_true rfl))) hI107
             have I155 : jI109 σ124 := jI109_fr ((f127 50 (of_decide_eq_true rfl)).trans (congrFun (f24 55 (of_decide_eq_true rfl)) 50)) hI109
             have I156 : jI110 σ124 := jI110_fr ((f126 86 (of_decide_eq_true rfl)).trans (f24 86 (of_decide_eq_true rfl))) ((f126 87 (of_decide_eq_true rfl)).trans (f24 87 (of_decide_eq_true rfl))) hI110
             have I157 : jI111 σ124 := jI111_fr ((f126 79 (of_decide_eq_true rfl)).trans (f24 79 (of_decide_eq_true rfl))) hI111
             have I158 : jI119 σ124 := jI119_fr ((f126 68 (of_decide_eq_true rfl)).trans (f24 68 (of_decide_eq_true rfl))) hI119
             have p159 : jKept σ124 := jKept.fr ((f126 75 (of_decide_eq_true rfl)).trans (f24 75 (of_decide_eq_true rfl))) ((f126 76 (of_decide_eq_true rfl)).trans (f24 76 (of_decide_eq_true rfl))) ((f126 77 (of_decide_eq_true rfl)).trans (f24 77 (of_decide_eq_true rfl))) hs_jKept
             have p160 : jBook σ124 := jBook.fr ((f127 47 (of_decide_eq_true rfl)).trans (congrFun (f24 55 (of_decide_eq_true rfl)) 47)) ((f127 10 (of_decide_eq_true rfl)).trans (congrFun (f24 55 (of_decide_eq_true rfl)) 10)) ((f126 81 (of_decide_eq_true rfl)).trans (f24 81 (of_decide_eq_true rfl))) hs_jBook
             have z161 : (σ124 9 0).toInt = (σ 9 0).toInt := (congrArg Int32.toInt (show σ124 9 0 = (σ 9 0) from ((congrFun (f126 9 (of_decide_eq_true rfl)) 0).trans (congrFun (f24 9 (of_decide_eq_true rfl)) 0))))
             have z162 : (σ124 55 15).toInt = (σ 55 15).toInt := (congrArg Int32.toInt (show σ124 55 15 = (σ 55 15) from ((f127 15 (of_decide_eq_true rfl)).trans (congrFun (f24 55 (of_decide_eq_true rfl)) 15))))
             have z163 : (σ124 16 0).toInt = (σ 16 0).toInt := (congrArg Int32.toInt (show σ124 16 0 = (σ 16 0) from ((congrFun (f126 16 (of_decide_eq_true rfl)) 0).trans (congrFun (f24 16 (of_decide_eq_true rfl)) 0))))
             have z164 : (σ124 55 10).toInt = (σ 55 10).toInt := (congrArg Int32.toInt (show σ124 55 10 = (σ 55 10) from ((f127 10 (of_decide_eq_true rfl)).trans (congrFun (f24 55 (of_decide_eq_true rfl)) 10))))
             have z165 : (σ124 16 1).toInt = (σ 16 1).toInt := (congrArg Int32.toInt (show σ124 16 1 = (σ 16 1) from ((congrFun (f126 16 (of_decide_eq_true rfl)) 1).trans (congrFun (f24 16 (of_decide_eq_true rfl)) 1))))
             have z166 : (σ124 55 12).toInt = (σ 55 12).toInt := (congrArg Int32.toInt (show σ124 55 12 = (σ 55 12) from ((f127 12 (of_decide_eq_true rfl)).trans (congrFun (f24 55 (of_decide_eq_true rfl)) 12))))
             have z167 : (σ124 16 2).toInt = (σ 16 2).toInt := (congrArg Int32.toInt (show σ124 16 2 = (σ 16 2) from ((congrFun (f126 16 (of_decide_eq_true rfl)) 2).trans (congrFun (f24 16 (of_decide_eq_true rfl)) 2))))
             have z168 : (σ124 55 13).toInt = (σ 55 13).toInt := (congrArg Int32.toInt (show σ124 55 13 = (σ 55 13) from ((f127 13 (of_decide_eq_true rfl)).trans (congrFun (f24 55 (of_decide_eq_true rfl)) 13))))
             exact by exact ih x137 σ124 τ _ _ ls (by have h9 := tx137; omega) ⟨I138, I139, I140, I141, I142, I143, I144, I145, I146, I147, I148, I128, I149, I150, I151, I152, I153, I154, I155, I156, I157, I158, p159, p160, (by omega), (by omega), (by omega), (by omega), (show jTp (σ124 10) (σ124 63) (σ124 55 15).toInt by rw [show σ124 10 = σ 10 from ((f126 10 (of_decide_eq_true rfl)).trans (f24 10 (of_decide_eq_true rfl))), show σ124 63 = σ 63 from ((f126 63 (of_decide_eq_true rfl)).trans (f24 63 (of_decide_eq_true rfl)))]; exact hr0.le (by omega)), (show jSo (σ124 17) (σ124 62) (σ124 16 0).toInt by rw [show σ124 17 = σ 17 from ((f126 17 (of_decide_eq_true rfl)).trans (f24 17 (of_decide_eq_true rfl))), show σ124 62 = σ 62 from ((f126 62 (of_decide_eq_true rfl)).trans (f24 62 (of_decide_eq_true rfl))), show (σ124 16 0).toInt = (σ 16 0).toInt from by omega]; exact hr1)⟩ hP hS (lv_sub hl [0, 1, 2, 3] rfl)
          · obtain ⟨q170, k169⟩ := h131
            refine lv_pop hx hb dL_law_278 rfl ?_
            refine lv_goto (tgt := 1357) hx hb dL_law_279 (of_decide_eq_true rfl) ?_
            obtain ⟨x171, ex171⟩ : ∃ y : Int32, y = x0 + 6 := ⟨_, rfl⟩
            exact by
             have tx171 : x171.toInt = x0.toInt + 6 := (jadd ex171 rfl jz_6 (by omega) (by omega)).trans (by omega)
             refine lv_iinc (v := x171) (lv' := [(3, .int x171), (2, .ref (ad 55)), (1, .ref (ad 0)), (0, .ref b)]) hx hb dL_law_1357 hl (k := 0) rfl (by rw [ex171]; rfl) (of_decide_eq_true rfl) rfl (fun ls hl => ?_)
             refine lv_goto (tgt := 18) hx hb dL_law_1360 (of_decide_eq_true rfl) ?_
             have I172 : jI2 σ124 := jI2_fr (congrFun (f126 2 (of_decide_eq_true rfl)) 0) (congrFun (f126 2 (of_decide_eq_true rfl)) 1) (congrFun (f126 2 (of_decide_eq_true rfl)) 2) (congrFun (f126 2 (of_decide_eq_true rfl)) 3) (f126 6 (of_decide_eq_true rfl)) I26
             have I173 : jI9 σ124 := jI9_fr ((congrFun (f126 9 (of_decide_eq_true rfl)) 0).trans (congrFun (f24 9 (of_decide_eq_true rfl)) 0)) ((f126 10 (of_decide_eq_true rfl)).trans (f24 10 (of_decide_eq_true rfl))) ((f126 11 (of_decide_eq_true rfl)).trans (f24 11 (of_decide_eq_true rfl))) hI9
             have I174 : jI12 σ124 := jI12_fr ((congrFun (f126 12 (of_decide_eq_true rfl)) 0).trans (congrFun (f24 12 (of_decide_eq_true rfl)) 0)) ((f126 13 (of_decide_eq_true rfl)).trans (f24 13 (of_decide_eq_true rfl))) hI12
             have I175 : jI16 σ124 := jI16_fr ((congrFun (f126 16 (of_decide_eq_true rfl)) 0).trans (congrFun (f24 16 (of_decide_eq_true rfl)) 0)) ((congrFun (f126 16 (of_decide_eq_true rfl)) 1).trans (congrFun (f24 16 (of_decide_eq_true rfl)) 1)) ((congrFun (f126 16 (of_decide_eq_true rfl)) 2).trans (congrFun (f24 16 (of_decide_eq_true rfl)) 2)) ((f126 17 (of_decide_eq_true rfl)).trans (f24 17 (of_decide_eq_true rfl))) hI16
             have I176 : jI18 σ124 := jI18_fr ((congrFun (f126 18 (of_decide_eq_true rfl)) 0).trans (congrFun (f24 18 (of_decide_eq_true rfl)) 0)) ((f126 19 (of_decide_eq_true rfl)).trans (f24 19 (of_decide_eq_true rfl))) hI18
             have I177 : jI22 σ124 := jI22_fr ((congrFun (f126 22 (of_decide_eq_true rfl)) 0).trans (congrFun (f24 22 (of_decide_eq_true rfl)) 0)) ((f126 23 (of_decide_eq_true rfl)).trans (f24 23 (of_decide_eq_true rfl))) hI22
             exact by
              have I178 : jI31 σ124 := jI31_fr ((congrFun (f126 31 (of_decide_eq_true rfl)) 8).trans (congrFun (f24 31 (of_decide_eq_true rfl)) 8)) ((f126 33 (of_decide_eq_true rfl)).trans (f24 33 (of_decide_eq_true rfl))) ((f126 36 (of_decide_eq_true rfl)).trans (f24 36 (of_decide_eq_true rfl))) hI31
              have I179 : jI38 σ124 := jI38_fr ((congrFun (f126 38 (of_decide_eq_true rfl)) 0).trans (congrFun (f24 38 (of_decide_eq_true rfl)) 0)) ((congrFun (f126 38 (of_decide_eq_true rfl)) 1).trans (congrFun (f24 38 (of_decide_eq_true rfl)) 1)) ((f126 39 (of_decide_eq_true rfl)).trans (f24 39 (of_decide_eq_true rfl))) hI38
              have I180 : jI43 σ124 := jI43_fr ((congrFun (f126 43 (of_decide_eq_true rfl)) 8).trans (congrFun (f24 43 (of_decide_eq_true rfl)) 8)) hI43
              have I181 : jI47 σ124 := jI47_fr ((congrFun (f126 47 (of_decide_eq_true rfl)) 0).trans (congrFun (f24 47 (of_decide_eq_true rfl)) 0)) ((f126 48 (of_decide_eq_true rfl)).trans (f24 48 (of_decide_eq_true rfl))) ((f126 49 (of_decide_eq_true rfl)).trans (f24 49 (of_decide_eq_true rfl))) hI47
              have I182 : jI50 σ124 := jI50_fr ((f126 52 (of_decide_eq_true rfl)).trans (f24 52 (of_decide_eq_true rfl))) hI50
              have I183 : jI102 σ124 := jI102_fr (f127 6 (of_decide_eq_true rfl)) (f126 60 (of_decide_eq_true rfl)) (f126 61 (of_decide_eq_true rfl)) I121
              have I184 : jI103 σ124 := jI103_fr ((f127 9 (of_decide_eq_true rfl)).trans (congrFun (f24 55 (of_decide_eq_true rfl)) 9)) hI103
              have I185 : jI104 σ124 := jI104_fr ((f127 10 (of_decide_eq_true rfl)).trans (congrFun (f24 55 (of_decide_eq_true rfl)) 10)) ((f127 12 (of_decide_eq_true rfl)).trans (congrFun (f24 55 (of_decide_eq_true rfl)) 12)) ((f127 13 (of_decide_eq_true rfl)).trans (congrFun (f24 55 (of_decide_eq_true rfl)) 13)) ((f126 62 (of_decide_eq_true rfl)).trans (f24 62 (of_decide_eq_true rfl))) ((f126 67 (of_decide_eq_true rfl)).trans (f24 67 (of_decide_eq_true rfl))) hI104
              have I186 : jI105 σ124 := jI105_fr ((f127 15 (of_decide_eq_true rfl)).trans (congrFun (f24 55 (of_decide_eq_true rfl)) 15)) ((f126 65 (of_decide_eq_true rfl)).trans (f24 65 (of_decide_eq_true rfl))) hI105
              have I187 : jI106 σ124 := jI106_fr ((f127 32 (of_decide_eq_true rfl)).trans (congrFun (f24 55 (of_decide_eq_true rfl)) 32)) ((f126 70 (of_decide_eq_true rfl)).trans (f24 70 (of_decide_eq_true rfl))) ((f126 71 (of_decide_eq_true rfl)).trans (f24 71 (of_decide_eq_true rfl))) ((f126 72 (of_decide_eq_true rfl)).trans (f24 72 (of_decide_eq_true rfl))) hI106
              have I188 : jI107 σ124 := jI107_fr ((f127 12 (of_decide_eq_true rfl)).trans (congrFun (f24 55 (of_decide_eq_true rfl)) 12)) ((f127 47 (of_decide_eq_true rfl)).trans (congrFun (f24 55 (of_decide_eq_true rfl)) 47)) ((f126 80 (of_decide_eq_true rfl)).trans (f24 80 (of_decide_eq_true rfl))) hI107
              have I189 : jI109 σ124 := jI109_fr ((f127 50 (of_decide_eq_true rfl)).trans (congrFun (f24 55 (of_decide_eq_true rfl)) 50)) hI109
              have I190 : jI110 σ124 := jI110_fr ((f126 86 (of_decide_eq_true rfl)).trans (f24 86 (of_decide_eq_true rfl))) ((f126 87 (of_decide_eq_true rfl)).trans (f24 87 (of_decide_eq_true rfl))) hI110
              have I191 : jI111 σ124 := jI111_fr ((f126 79 (of_decide_eq_true rfl)).trans (f24 79 (of_decide_eq_true rfl))) hI111
              have I192 : jI119 σ124 := jI119_fr ((f126 68 (of_decide_eq_true rfl)).trans (f24 68 (of_decide_eq_true rfl))) hI119
              have p193 : jKept σ124 := jKept.fr ((f126 75 (of_decide_eq_true rfl)).trans (f24 75 (of_decide_eq_true rfl))) ((f126 76 (of_decide_eq_true rfl)).trans (f24 76 (of_decide_eq_true rfl))) ((f126 77 (of_decide_eq_true rfl)).trans (f24 77 (of_decide_eq_true rfl))) hs_jKept
              have p194 : jBook σ124 := jBook.fr ((f127 47 (of_decide_eq_true rfl)).trans (congrFun (f24 55 (of_decide_eq_true rfl)) 47)) ((f127 10 (of_decide_eq_true rfl)).trans (congrFun (f24 55 (of_decide_eq_true rfl)) 10)) ((f126 81 (of_decide_eq_true rfl)).trans (f24 81 (of_decide_eq_true rfl))) hs_jBook
              have z195 : (σ124 9 0).toInt = (σ 9 0).toInt := (congrArg Int32.toInt (show σ124 9 0 = (σ 9 0) from ((congrFun (f126 9 (of_decide_eq_true rfl)) 0).trans (congrFun (f24 9 (of_decide_eq_true rfl)) 0))))
              have z196 : (σ124 55 15).toInt = (σ 55 15).toInt := (congrArg Int32.toInt (show σ124 55 15 = (σ 55 15) from ((f127 15 (of_decide_eq_true rfl)).trans (congrFun (f24 55 (of_decide_eq_true rfl)) 15))))
              have z197 : (σ124 16 0).toInt = (σ 16 0).toInt := (congrArg Int32.toInt (show σ124 16 0 = (σ 16 0) from ((congrFun (f126 16 (of_decide_eq_true rfl)) 0).trans (congrFun (f24 16 (of_decide_eq_true rfl)) 0))))
              have z198 : (σ124 55 10).toInt = (σ 55 10).toInt := (congrArg Int32.toInt (show σ124 55 10 = (σ 55 10) from ((f127 10 (of_decide_eq_true rfl)).trans (congrFun (f24 55 (of_decide_eq_true rfl)) 10))))
              have z199 : (σ124 16 1).toInt = (σ 16 1).toInt := (congrArg Int32.toInt (show σ124 16 1 = (σ 16 1) from ((congrFun (f126 16 (of_decide_eq_true rfl)) 1).trans (congrFun (f24 16 (of_decide_eq_true rfl)) 1))))
              have z200 : (σ124 55 12).toInt = (σ 55 12).toInt := (congrArg Int32.toInt (show σ124 55 12 = (σ 55 12) from ((f127 12 (of_decide_eq_true rfl)).trans (congrFun (f24 55 (of_decide_eq_true rfl)) 12))))
              have z201 : (σ124 16 2).toInt = (σ 16 2).toInt := (congrArg Int32.toInt (show σ124 16 2 = (σ 16 2) from ((congrFun (f126 16 (of_decide_eq_true rfl)) 2).trans (congrFun (f24 16 (of_decide_eq_true rfl)) 2))))
              have z202 : (σ124 55 13).toInt = (σ 55 13).toInt := (congrArg Int32.toInt (show σ124 55 13 = (σ 55 13) from ((f127 13 (of_decide_eq_true rfl)).trans (congrFun (f24 55 (of_decide_eq_true rfl)) 13))))
              exact by exact ih x171 σ124 τ _ _ ls (by have h9 := tx171; omega) ⟨I172, I173, I174, I175, I176, I177, I178, I179, I180, I181, I182, I128, I183, I184, I185, I186, I187, I188, I189, I190, I191, I192, p193, p194, (by omega), (by omega), (by omega), (by omega), (show jTp (σ124 10) (σ124 63) (σ124 55 15).toInt by rw [show σ124 10 = σ 10 from ((f126 10 (of_decide_eq_true rfl)).trans (f24 10 (of_decide_eq_true rfl))), show σ124 63 = σ 63 from ((f126 63 (of_decide_eq_true rfl)).trans (f24 63 (of_decide_eq_true rfl)))]; exact hr0.le (by omega)), (show jSo (σ124 17) (σ124 62) (σ124 16 0).toInt by rw [show σ124 17 = σ 17 from ((f126 17 (of_decide_eq_true rfl)).trans (f24 17 (of_decide_eq_true rfl))), show σ124 62 = σ 62 from ((f126 62 (of_decide_eq_true rfl)).trans (f24 62 (of_decide_eq_true rfl))), show (σ124 16 0).toInt = (σ 16 0).toInt from by omega]; exact hr1)⟩ hP hS (lv_sub hl [0, 1, 2, 3] rfl)
set_option maxHeartbeats 4000000 in
set_option maxRecDepth 100000 in
theorem law_case_2 {p : Program} {e : Env} {s : State} {m : MethodId} {below : List Frame} {meth : Method} {c : Code} (l : Launch) {b L : Nat} {xs : Nat → Int32} {D : va_G} {cI cL : ClassId} {ad zz : Nat → Nat} (C0 : lw_At p s m meth c b L xs) (hJ : jD ad) (hA : ∀ q, jA ad q → s.heap.size ≤ q) (hK : jK D cI cL s) (hZ : jZ zz (fun q : Nat => s.heap.size ≤ q) s s.heap) {x0 : Int32} (hx0 : 0 ≤ x0.toInt) (hxL : x0.toInt + 6 ≤ (L : Int)) (hL : L ≤ 384) {σ : Nat → Nat → Int32} {τ : Nat → Nat → Int64} {H : Heap} {locs : List Loc} (hS : va_S (fun q : Nat => s.heap.size ≤ q) s.heap H locs) {ls : Array Slot} (hAll : jAll σ τ) (hP : jH D cI cL ad σ τ H) (hl : lv_has ls 4 [(3, .int x0), (2, .ref (ad 55)), (1, .ref (ad 0)), (0, .ref b)]) (ih : ∀ (x1 : Int32) (σ : Nat → Nat → Int32) (τ : Nat → Nat → Int64) (H : Heap) (locs : List Loc) (ls : Array Slot), x1.toInt = x0.toInt + 6 → jAll σ τ → jH D cI cL ad σ τ H → va_S (fun q : Nat => s.heap.size ≤ q) s.heap H locs → lv_has ls 4 [(3, .int x1), (2, .ref (ad 55)), (1, .ref (ad 0)), (0, .ref b)] → W p l e room_1 s m #[Value.ref b] below meth c H locs 90 348600 (lw_Z below #[Value.ref b] s) (F0 m 18 ls [])) : W p l e room_1 s m #[Value.ref b] below meth c H locs 90 348600 (lw_Z below #[Value.ref b] s) (F0 m 282 ls []) := by
  obtain ⟨hx, hb, hr, hml, hown, hts0, hX, hbl, hlocks, hgv⟩ := C0
  have hts : ∀ w ∈ wsL_law, w.before #[Value.ref b] s = true := fun w h => hts0 w (wsL_law_in w h)
  have hbA : ¬ (fun q : Nat => s.heap.size ≤ q) b := Nat.not_le.mpr hbl
  have hown : s.vm.findClass RL = some m.cls := hown
  obtain ⟨hI2, hI9, hI12, hI16, hI18, hI22, hI31, hI38, hI43, hI47, hI50, hI101, hI102, hI103, hI104, hI105, hI106, hI107, hI109, hI110, hI111, hI119, hs_jKept, hs_jBook, ht0, ht1, ht2, ht3, hr0, hr1⟩ := hAll
  have hL9 : (L : Int) ≤ 384 := by omega
  obtain ⟨i1, w2, w3⟩ : (0 ≤ (σ 9 0).toInt ∧ (σ 9 0).toInt ≤ 80) ∧ (∀ k : Nat, k < 80 → 0 ≤ (σ 10 k).toInt ∧ (σ 10 k).toInt ≤ 255) ∧ (∀ k : Nat, k < 8 → 0 ≤ (σ 11 k).toInt ∧ (σ 11 k).toInt ≤ 3) := id hI9
  obtain ⟨i4, i5, i6, w7⟩ : (1 ≤ (σ 16 0).toInt ∧ (σ 16 0).toInt ≤ 8) ∧ (1 ≤ (σ 16 1).toInt ∧ (σ 16 1).toInt ≤ 12) ∧ (0 ≤ (σ 16 2).toInt ∧ (σ 16 2).toInt ≤ 999) ∧ (∀ k : Nat, k < 8 → 0 ≤ (σ 17 k).toInt ∧ (σ 17 k).toInt ≤ 3) := id hI16
  obtain ⟨i8, i9, i10, w11, w12⟩ : (1 ≤ (σ 55 10).toInt ∧ (σ 55 10).toInt ≤ 8) ∧ (1 ≤ (σ 55 12).toInt ∧ (σ 55 12).toInt ≤ 12) ∧ (0 ≤ (σ 55 13).toInt ∧ (σ 55 13).toInt ≤ 999) ∧ (∀ k : Nat, k < 8 → 0 ≤ (σ 62 k).toInt ∧ (σ 62 k).toInt ≤ 3) ∧ (∀ k : Nat, k < 8 → 0 ≤ (σ 67 k).toInt ∧ (σ 67 k).toInt ≤ 3) := id hI104
  obtain ⟨i13, w14⟩ : (0 ≤ (σ 55 15).toInt ∧ (σ 55 15).toInt ≤ 80) ∧ (∀ k : Nat, k < 2 → (-1) ≤ (σ 65 k).toInt ∧ (σ 65 k).toInt ≤ 80) := id hI105
  refine lv_aload_n hx hb dL_law_282 rfl (lv_at hl 2 rfl) ?_
  refine lv_aload_n hx hb dL_law_283 rfl (lv_at hl 3 rfl) ?_
  refine lv_iload_n hx hb dL_law_284 rfl (lv_at hl 0 rfl) ?_
  refine lv_iconst (v := 1) hx hb dL_law_285 (of_decide_eq_true rfl) ?_
  have g15 := jrg (rfl : x0.toInt = x0.toInt)
  refine lv_iadd hx hb dL_law_286 ?_
  refine lv_topi (fun x16 ex16 => ?_)
  exact by
   have tx16 : x16.toInt = x0.toInt + 1 := (jadd ex16 rfl jz_1 (by omega) (by omega)).trans (by omega)
   refine va_sld hx hb hX hbl hbA hS (jin tx16 (by omega) (by omega)) dL_law_287 ?_
   have g17 := jrg (rfl : (xs x16.toNatClampNeg).toInt = (xs x16.toNatClampNeg).toInt)
   refine lv_aload_n hx hb dL_law_288 rfl (lv_at hl 3 rfl) ?_
   refine lv_iload_n hx hb dL_law_289 rfl (lv_at hl 0 rfl) ?_
   refine lv_iconst (v := 2) hx hb dL_law_290 (of_decide_eq_true rfl) ?_
   refine lv_iadd hx hb dL_law_291 ?_
   refine lv_topi (fun x18 ex18 => ?_)
   have tx18 : x18.toInt = x0.toInt + 2 := (jadd ex18 rfl jz_2 (by omega) (by omega)).trans (by omega)
   exact by
    refine va_sld hx hb hX hbl hbA hS (jin tx18 (by omega) (by omega)) dL_law_292 ?_
    have g19 := jrg (rfl : (xs x18.toNatClampNeg).toInt = (xs x18.toNatClampNeg).toInt)
    refine lv_aload_n hx hb dL_law_293 rfl (lv_at hl 3 rfl) ?_
    refine lv_iload_n hx hb dL_law_294 rfl (lv_at hl 0 rfl) ?_
    refine lv_iconst (v := 3) hx hb dL_law_295 (of_decide_eq_true rfl) ?_
    refine lv_iadd hx hb dL_law_296 ?_
    refine lv_topi (fun x20 ex20 => ?_)
    have tx20 : x20.toInt = x0.toInt + 3 := (jadd ex20 rfl jz_3 (by omega) (by omega)).trans (by omega)
    refine va_sld hx hb hX hbl hbA hS (jin tx20 (by omega) (by omega)) dL_law_297 ?_
    exact by
     have g21 := jrg (rfl : (xs x20.toNatClampNeg).toInt = (xs x20.toNatClampNeg).toInt)
     refine jcallV (As := [.int (xs x16.toNatClampNeg), .int (xs x18.toNatClampNeg), .int (xs x20.toNatClampNeg)]) (rest := []) ⟨hx, hb, hml, hown, hts⟩ hK hP hA hS hZ (c_X11_field l D cI cL ad zz hJ σ τ (xs x16.toNatClampNeg) ((xs x16.toNatClampNeg).toInt) rfl (xs x18.toNatClampNeg) ((xs x18.toNatClampNeg).toInt) rfl (xs x20.toNatClampNeg) ((xs x20.toNatClampNeg).toInt) rfl hI2) cw_RL_22 (jc_0 cI cL ad σ τ) rfl ⟨Nat.le_of_ble_eq_true rfl, Nat.le_of_ble_eq_true rfl⟩ rfl rfl rfl hl.1 rfl (Nat.le_of_ble_eq_true rfl) dL_law_298 ⟨Nat.le_of_ble_eq_true rfl, Nat.le_of_ble_eq_true rfl⟩ (fun r23 σ22 τ22 H locs h22 hP hS => ?_)
     obtain ⟨rfl, f24, f25, I26, h22⟩ := h22
     rcases h22 with h28 | h29
     · obtain ⟨q34, k30, k31, k32, k33⟩ := h28
       have q34 := q34.symm
       subst q34
       refine lv_pop hx hb dL_law_301 rfl ?_
       refine lv_aload_n hx hb dL_law_302 rfl (lv_at hl 1 rfl) ?_
       refine lv_aload_n hx hb dL_law_303 rfl (lv_at hl 3 rfl) ?_
       refine lv_iload_n hx hb dL_law_304 rfl (lv_at hl 0 rfl) ?_
       refine lv_iconst (v := 1) hx hb dL_law_305 (of_decide_eq_true rfl) ?_
       refine lv_iadd hx hb dL_law_306 ?_
       refine jtopr ex16.symm ?_
       exact by
        refine va_sld hx hb hX hbl hbA hS (jin tx16 (by omega) (by omega)) dL_law_307 ?_
        refine lv_aload_n hx hb dL_law_308 rfl (lv_at hl 3 rfl) ?_
        refine lv_iload_n hx hb dL_law_309 rfl (lv_at hl 0 rfl) ?_
        refine lv_iconst (v := 2) hx hb dL_law_310 (of_decide_eq_true rfl) ?_
        refine lv_iadd hx hb dL_law_311 ?_
        refine jtopr ex18.symm ?_
        refine va_sld hx hb hX hbl hbA hS (jin tx18 (by omega) (by omega)) dL_law_312 ?_
        refine lv_aload_n hx hb dL_law_313 rfl (lv_at hl 3 rfl) ?_
        refine lv_iload_n hx hb dL_law_314 rfl (lv_at hl 0 rfl) ?_
        exact by
         refine lv_iconst (v := 3) hx hb dL_law_315 (of_decide_eq_true rfl) ?_
         refine lv_iadd hx hb dL_law_316 ?_
         refine jtopr ex20.symm ?_
         refine va_sld hx hb hX hbl hbA hS (jin tx20 (by omega) (by omega)) dL_law_317 ?_
         have I35 : jI101 σ22 := jI101_fr (congrFun (f24 55 (of_decide_eq_true rfl)) 4) (congrFun (f24 55 (of_decide_eq_true rfl)) 5) (f24 56 (of_decide_eq_true rfl)) (f24 57 (of_decide_eq_true rfl)) (f24 58 (of_decide_eq_true rfl)) (f24 59 (of_decide_eq_true rfl)) hI101
         have z36 : (σ22 55 5).toInt = (σ 55 5).toInt := (congrArg Int32.toInt (show σ22 55 5 = (σ 55 5) from (congrFun (f24 55 (of_decide_eq_true rfl)) 5)))
         have z37 : (σ22 55 4).toInt = (σ 55 4).toInt := (congrArg Int32.toInt (show σ22 55 4 = (σ 55 4) from (congrFun (f24 55 (of_decide_eq_true rfl)) 4)))
         refine jcallV (As := [.int (xs x16.toNatClampNeg), .int (xs x18.toNatClampNeg), .int (xs x20.toNatClampNeg)]) (rest := []) ⟨hx, hb, hml, hown, hts⟩ hK hP hA hS hZ (c_X12_field l D cI cL ad zz hJ σ22 τ (xs x16.toNatClampNeg) ((xs x16.toNatClampNeg).toInt) rfl (xs x18.toNatClampNeg) ((xs x18.toNatClampNeg).toInt) rfl (xs x20.toNatClampNeg) ((xs x20.toNatClampNeg).toInt) rfl I35) cw_RL_25 (jc_55 cI cL ad σ22 τ) rfl ⟨Nat.le_of_ble_eq_true rfl, Nat.le_of_ble_eq_true rfl⟩ rfl rfl rfl hl.1 rfl (Nat.le_of_ble_eq_true rfl) dL_law_318 ⟨Nat.le_of_ble_eq_true rfl, Nat.le_of_ble_eq_true rfl⟩ (fun r39 σ38 τ38 H locs h38 hP hS => ?_)
         obtain ⟨rfl, f40, f41, I42, h38⟩ := h38
         exact by
          rcases h38 with h44 | h45
          · obtain ⟨q50, k46, k47, k48, k49⟩ := h44
            have q50 := q50.symm
            subst q50
            refine lv_pop hx hb dL_law_321 rfl ?_
            refine lv_goto (tgt := 1357) hx hb dL_law_322 (of_decide_eq_true rfl) ?_
            obtain ⟨x51, ex51⟩ : ∃ y : Int32, y = x0 + 6 := ⟨_, rfl⟩
            have tx51 : x51.toInt = x0.toInt + 6 := (jadd ex51 rfl jz_6 (by omega) (by omega)).trans (by omega)
            refine lv_iinc (v := x51) (lv' := [(3, .int x51), (2, .ref (ad 55)), (1, .ref (ad 0)), (0, .ref b)]) hx hb dL_law_1357 hl (k := 0) rfl (by rw [ex51]; rfl) (of_decide_eq_true rfl) rfl (fun ls hl => ?_)
            exact by
             refine lv_goto (tgt := 18) hx hb dL_law_1360 (of_decide_eq_true rfl) ?_
             have I52 : jI2 σ38 := jI2_fr (congrFun (f40 2 (of_decide_eq_true rfl)) 0) (congrFun (f40 2 (of_decide_eq_true rfl)) 1) (congrFun (f40 2 (of_decide_eq_true rfl)) 2) (congrFun (f40 2 (of_decide_eq_true rfl)) 3) (f40 6 (of_decide_eq_true rfl)) I26
             have I53 : jI9 σ38 := jI9_fr ((congrFun (f40 9 (of_decide_eq_true rfl)) 0).trans (congrFun (f24 9 (of_decide_eq_true rfl)) 0)) ((f40 10 (of_decide_eq_true rfl)).trans (f24 10 (of_decide_eq_true rfl))) ((f40 11 (of_decide_eq_true rfl)).trans (f24 11 (of_decide_eq_true rfl))) hI9
             have I54 : jI12 σ38 := jI12_fr ((congrFun (f40 12 (of_decide_eq_true rfl)) 0).trans (congrFun (f24 12 (of_decide_eq_true rfl)) 0)) ((f40 13 (of_decide_eq_true rfl)).trans (f24 13 (of_decide_eq_true rfl))) hI12
             have I55 : jI16 σ38 := jI16_fr ((congrFun (f40 16 (of_decide_eq_true rfl)) 0).trans (congrFun (f24 16 (of_decide_eq_true rfl)) 0)) ((congrFun (f40 16 (of_decide_eq_true rfl)) 1).trans (congrFun (f24 16 (of_decide_eq_true rfl)) 1)) ((congrFun (f40 16 (of_decide_eq_true rfl)) 2).trans (congrFun (f24 16 (of_decide_eq_true rfl)) 2)) ((f40 17 (of_decide_eq_true rfl)).trans (f24 17 (of_decide_eq_true rfl))) hI16
             have I56 : jI18 σ38 := jI18_fr ((congrFun (f40 18 (of_decide_eq_true rfl)) 0).trans (congrFun (f24 18 (of_decide_eq_true rfl)) 0)) ((f40 19 (of_decide_eq_true rfl)).trans (f24 19 (of_decide_eq_true rfl))) hI18
             have I57 : jI22 σ38 := jI22_fr ((congrFun (f40 22 (of_decide_eq_true rfl)) 0).trans (congrFun (f24 22 (of_decide_eq_true rfl)) 0)) ((f40 23 (of_decide_eq_true rfl)).trans (f24 23 (of_decide_eq_true rfl))) hI22
             have I58 : jI31 σ38 := jI31_fr ((congrFun (f40 31 (of_decide_eq_true rfl)) 8).trans (congrFun (f24 31 (of_decide_eq_true rfl)) 8)) ((f40 33 (of_decide_eq_true rfl)).trans (f24 33 (of_decide_eq_true rfl))) ((f40 36 (of_decide_eq_true rfl)).trans (f24 36 (of_decide_eq_true rfl))) hI31
             have I59 : jI38 σ38 := jI38_fr ((congrFun (f40 38 (of_decide_eq_true rfl)) 0).trans (congrFun (f24 38 (of_decide_eq_true rfl)) 0)) ((congrFun (f40 38 (of_decide_eq_true rfl)) 1).trans (congrFun (f24 38 (of_decide_eq_true rfl)) 1)) ((f40 39 (of_decide_eq_true rfl)).trans (f24 39 (of_decide_eq_true rfl))) hI38
             have I60 : jI43 σ38 := jI43_fr ((congrFun (f40 43 (of_decide_eq_true rfl)) 8).trans (congrFun (f24 43 (of_decide_eq_true rfl)) 8)) hI43
             have I61 : jI47 σ38 := jI47_fr ((congrFun (f40 47 (of_decide_eq_true rfl)) 0).trans (congrFun (f24 47 (of_decide_eq_true rfl)) 0)) ((f40 48 (of_decide_eq_true rfl)).trans (f24 48 (of_decide_eq_true rfl))) ((f40 49 (of_decide_eq_true rfl)).trans (f24 49 (of_decide_eq_true rfl))) hI47
             have I62 : jI50 σ38 := jI50_fr ((f40 52 (of_decide_eq_true rfl)).trans (f24 52 (of_decide_eq_true rfl))) hI50
             have I63 : jI102 σ38 := jI102_fr ((f41 6 (of_decide_eq_true rfl)).trans (congrFun (f24 55 (of_decide_eq_true rfl)) 6)) ((f40 60 (of_decide_eq_true rfl)).trans (f24 60 (of_decide_eq_true rfl))) ((f40 61 (of_decide_eq_true rfl)).trans (f24 61 (of_decide_eq_true rfl))) hI102
             have I64 : jI103 σ38 := jI103_fr ((f41 9 (of_decide_eq_true rfl)).trans (congrFun (f24 55 (of_decide_eq_true rfl)) 9)) hI103
             have I65 : jI104 σ38 := jI104_fr ((f41 10 (of_decide_eq_true rfl)).trans (congrFun (f24 55 (of_decide_eq_true rfl)) 10)) ((f41 12 (of_decide_eq_true rfl)).trans (congrFun (f24 55 (of_decide_eq_true rfl)) 12)) ((f41 13 (of_decide_eq_true rfl)).trans (congrFun (f24 55 (of_decide_eq_true rfl)) 13)) ((f40 62 (of_decide_eq_true rfl)).trans (f24 62 (of_decide_eq_true rfl))) ((f40 67 (of_decide_eq_true rfl)).trans (f24 67 (of_decide_eq_true rfl))) hI104
             have I66 : jI105 σ38 := jI105_fr ((f41 15 (of_decide_eq_true rfl)).trans (congrFun (f24 55 (of_decide_eq_true rfl)) 15)) ((f40 65 (of_decide_eq_true rfl)).trans (f24 65 (of_decide_eq_true rfl))) hI105
             have I67 : jI106 σ38 := jI106_fr ((f41 32 (of_decide_eq_true rfl)).trans (congrFun (f24 55 (of_decide_eq_true rfl)) 32)) ((f40 70 (of_decide_eq_true rfl)).trans (f24 70 (of_decide_eq_true rfl))) ((f40 71 (of_decide_eq_true rfl)).trans (f24 71 (of_decide_eq_true rfl))) ((f40 72 (of_decide_eq_true rfl)).trans (f24 72 (of_decide_eq_true rfl))) hI106
             have I68 : jI107 σ38 := jI107_fr ((f41 12 (of_decide_eq_true rfl)).trans (congrFun (f24 55 (of_decide_eq_true rfl)) 12)) ((f41 47 (of_decide_eq_true rfl)).trans (congrFun (f24 55 (of_decide_eq_true rfl)) 47)) ((f40 80 (of_decide_eq_true rfl)).trans (f24 80 (of_decide_eq_true rfl))) hI107
             have I69 : jI109 σ38 := jI109_fr ((f41 50 (of_decide_eq_true rfl)).trans (congrFun (f24 55 (of_decide_eq_true rfl)) 50)) hI109
             have I70 : jI110 σ38 := jI110_fr ((f40 86 (of_decide_eq_true rfl)).trans (f24 86 (of_decide_eq_true rfl))) ((f40 87 (of_decide_eq_true rfl)).trans (f24 87 (of_decide_eq_true rfl))) hI110
             have I71 : jI111 σ38 := jI111_fr ((f40 79 (of_decide_eq_true rfl)).trans (f24 79 (of_decide_eq_true rfl))) hI111
             have I72 : jI119 σ38 := jI119_fr ((f40 68 (of_decide_eq_true rfl)).trans (f24 68 (of_decide_eq_true rfl))) hI119
             have p73 : jKept σ38 := jKept.fr ((f40 75 (of_decide_eq_true rfl)).trans (f24 75 (of_decide_eq_true rfl))) ((f40 76 (of_decide_eq_true rfl)).trans (f24 76 (of_decide_eq_true rfl))) ((f40 77 (of_decide_eq_true rfl)).trans (f24 77 (of_decide_eq_true rfl))) hs_jKept
             have p74 : jBook σ38 := jBook.fr ((f41 47 (of_decide_eq_true rfl)).trans (congrFun (f24 55 (of_decide_eq_true rfl)) 47)) ((f41 10 (of_decide_eq_true rfl)).trans (congrFun (f24 55 (of_decide_eq_true rfl)) 10)) ((f40 81 (of_decide_eq_true rfl)).trans (f24 81 (of_decide_eq_true rfl))) hs_jBook
             have z75 : (σ38 9 0).toInt = (σ 9 0).toInt := (congrArg Int32.toInt (show σ38 9 0 = (σ 9 0) from ((congrFun (f40 9 (of_decide_eq_true rfl)) 0).trans (congrFun (f24 9 (of_decide_eq_true rfl)) 0))))
             have z76 : (σ38 55 15).toInt = (σ 55 15).toInt := (congrArg Int32.toInt (show σ38 55 15 = (σ 55 15) from ((f41 15 (of_decide_eq_true rfl)).trans (congrFun (f24 55 (of_decide_eq_true rfl)) 15))))
             have z77 : (σ38 16 0).toInt = (σ 16 0).toInt := (congrArg Int32.toInt (show σ38 16 0 = (σ 16 0) from ((congrFun (f40 16 (of_decide_eq_true rfl)) 0).trans (congrFun (f24 16 (of_decide_eq_true rfl)) 0))))
             have z78 : (σ38 55 10).toInt = (σ 55 10).toInt := (congrArg Int32.toInt (show σ38 55 10 = (σ 55 10) from ((f41 10 (of_decide_eq_true rfl)).trans (congrFun (f24 55 (of_decide_eq_true rfl)) 10))))
             have z79 : (σ38 16 1).toInt = (σ 16 1).toInt := (congrArg Int32.toInt (show σ38 16 1 = (σ 16 1) from ((congrFun (f40 16 (of_decide_eq_true rfl)) 1).trans (congrFun (f24 16 (of_decide_eq_true rfl)) 1))))
             have z80 : (σ38 55 12).toInt = (σ 55 12).toInt := (congrArg Int32.toInt (show σ38 55 12 = (σ 55 12) from ((f41 12 (of_decide_eq_true rfl)).trans (congrFun (f24 55 (of_decide_eq_true rfl)) 12))))
             have z81 : (σ38 16 2).toInt = (σ 16 2).toInt := (congrArg Int32.toInt (show σ38 16 2 = (σ 16 2) from ((congrFun (f40 16 (of_decide_eq_true rfl)) 2).trans (congrFun (f24 16 (of_decide_eq_true rfl)) 2))))
             have z82 : (σ38 55 13).toInt = (σ 55 13).toInt := (congrArg Int32.toInt (show σ38 55 13 = (σ 55 13) from ((f41 13 (of_decide_eq_true rfl)).trans (congrFun (f24 55 (of_decide_eq_true rfl)) 13))))
             exact by exact ih x51 σ38 τ _ _ ls (by have h9 := tx51; omega) ⟨I52, I53, I54, I55, I56, I57, I58, I59, I60, I61, I62, I42, I63, I64, I65, I66, I67, I68, I69, I70, I71, I72, p73, p74, (by omega), (by omega), (by omega), (by omega), (show jTp (σ38 10) (σ38 63) (σ38 55 15).toInt by rw [show σ38 10 = σ 10 from ((f40 10 (of_decide_eq_true rfl)).trans (f24 10 (of_decide_eq_true rfl))), show σ38 63 = σ 63 from ((f40 63 (of_decide_eq_true rfl)).trans (f24 63 (of_decide_eq_true rfl)))]; exact hr0.le (by omega)), (show jSo (σ38 17) (σ38 62) (σ38 16 0).toInt by rw [show σ38 17 = σ 17 from ((f40 17 (of_decide_eq_true rfl)).trans (f24 17 (of_decide_eq_true rfl))), show σ38 62 = σ 62 from ((f40 62 (of_decide_eq_true rfl)).trans (f24 62 (of_decide_eq_true rfl))), show (σ38 16 0).toInt = (σ 16 0).toInt from by omega]; exact hr1)⟩ hP hS (lv_sub hl [0, 1, 2, 3] rfl)
          · obtain ⟨q84, k83⟩ := h45
            refine lv_pop hx hb dL_law_321 rfl ?_
            refine lv_goto (tgt := 1357) hx hb dL_law_322 (of_decide_eq_true rfl) ?_
            obtain ⟨x85, ex85⟩ : ∃ y : Int32, y = x0 + 6 := ⟨_, rfl⟩
            exact by
             have tx85 : x85.toInt = x0.toInt + 6 := (jadd ex85 rfl jz_6 (by omega) (by omega)).trans (by omega)
             refine lv_iinc (v := x85) (lv' := [(3, .int x85), (2, .ref (ad 55)), (1, .ref (ad 0)), (0, .ref b)]) hx hb dL_law_1357 hl (k := 0) rfl (by rw [ex85]; rfl) (of_decide_eq_true rfl) rfl (fun ls hl => ?_)
             refine lv_goto (tgt := 18) hx hb dL_law_1360 (of_decide_eq_true rfl) ?_
             have I86 : jI2 σ38 := jI2_fr (congrFun (f40 2 (of_decide_eq_true rfl)) 0) (congrFun (f40 2 (of_decide_eq_true rfl)) 1) (congrFun (f40 2 (of_decide_eq_true rfl)) 2) (congrFun (f40 2 (of_decide_eq_true rfl)) 3) (f40 6 (of_decide_eq_true rfl)) I26
             have I87 : jI9 σ38 := jI9_fr ((congrFun (f40 9 (of_decide_eq_true rfl)) 0).trans (congrFun (f24 9 (of_decide_eq_true rfl)) 0)) ((f40 10 (of_decide_eq_true rfl)).trans (f24 10 (of_decide_eq_true rfl))) ((f40 11 (of_decide_eq_true rfl)).trans (f24 11 (of_decide_eq_true rfl))) hI9
             have I88 : jI12 σ38 := jI12_fr ((congrFun (f40 12 (of_decide_eq_true rfl)) 0).trans (congrFun (f24 12 (of_decide_eq_true rfl)) 0)) ((f40 13 (of_decide_eq_true rfl)).trans (f24 13 (of_decide_eq_true rfl))) hI12
             have I89 : jI16 σ38 := jI16_fr ((congrFun (f40 16 (of_decide_eq_true rfl)) 0).trans (congrFun (f24 16 (of_decide_eq_true rfl)) 0)) ((congrFun (f40 16 (of_decide_eq_true rfl)) 1).trans (congrFun (f24 16 (of_decide_eq_true rfl)) 1)) ((congrFun (f40 16 (of_decide_eq_true rfl)) 2).trans (congrFun (f24 16 (of_decide_eq_true rfl)) 2)) ((f40 17 (of_decide_eq_true rfl)).trans (f24 17 (of_decide_eq_true rfl))) hI16
             have I90 : jI18 σ38 := jI18_fr ((congrFun (f40 18 (of_decide_eq_true rfl)) 0).trans (congrFun (f24 18 (of_decide_eq_true rfl)) 0)) ((f40 19 (of_decide_eq_true rfl)).trans (f24 19 (of_decide_eq_true rfl))) hI18
             have I91 : jI22 σ38 := jI22_fr ((congrFun (f40 22 (of_decide_eq_true rfl)) 0).trans (congrFun (f24 22 (of_decide_eq_true rfl)) 0)) ((f40 23 (of_decide_eq_true rfl)).trans (f24 23 (of_decide_eq_true rfl))) hI22
             exact by
              have I92 : jI31 σ38 := jI31_fr ((congrFun (f40 31 (of_decide_eq_true rfl)) 8).trans (congrFun (f24 31 (of_decide_eq_true rfl)) 8)) ((f40 33 (of_decide_eq_true rfl)).trans (f24 33 (of_decide_eq_true rfl))) ((f40 36 (of_decide_eq_true rfl)).trans (f24 36 (of_decide_eq_true rfl))) hI31
              have I93 : jI38 σ38 := jI38_fr ((congrFun (f40 38 (of_decide_eq_true rfl)) 0).trans (congrFun (f24 38 (of_decide_eq_true rfl)) 0)) ((congrFun (f40 38 (of_decide_eq_true rfl)) 1).trans (congrFun (f24 38 (of_decide_eq_true rfl)) 1)) ((f40 39 (of_decide_eq_true rfl)).trans (f24 39 (of_decide_eq_true rfl))) hI38
              have I94 : jI43 σ38 := jI43_fr ((congrFun (f40 43 (of_decide_eq_true rfl)) 8).trans (congrFun (f24 43 (of_decide_eq_true rfl)) 8)) hI43
              have I95 : jI47 σ38 := jI47_fr ((congrFun (f40 47 (of_decide_eq_true rfl)) 0).trans (congrFun (f24 47 (of_decide_eq_true rfl)) 0)) ((f40 48 (of_decide_eq_true rfl)).trans (f24 48 (of_decide_eq_true rfl))) ((f40 49 (of_decide_eq_true rfl)).trans (f24 49 (of_decide_eq_true rfl))) hI47
              have I96 : jI50 σ38 := jI50_fr ((f40 52 (of_decide_eq_true rfl)).trans (f24 52 (of_decide_eq_true rfl))) hI50
              have I97 : jI102 σ38 := jI102_fr ((f41 6 (of_decide_eq_true rfl)).trans (congrFun (f24 55 (of_decide_eq_true rfl)) 6)) ((f40 60 (of_decide_eq_true rfl)).trans (f24 60 (of_decide_eq_true rfl))) ((f40 61 (of_decide_eq_true rfl)).trans (f24 61 (of_decide_eq_true rfl))) hI102
              have I98 : jI103 σ38 := jI103_fr ((f41 9 (of_decide_eq_true rfl)).trans (congrFun (f24 55 (of_decide_eq_true rfl)) 9)) hI103
              have I99 : jI104 σ38 := jI104_fr ((f41 10 (of_decide_eq_true rfl)).trans (congrFun (f24 55 (of_decide_eq_true rfl)) 10)) ((f41 12 (of_decide_eq_true rfl)).trans (congrFun (f24 55 (of_decide_eq_true rfl)) 12)) ((f41 13 (of_decide_eq_true rfl)).trans (congrFun (f24 55 (of_decide_eq_true rfl)) 13)) ((f40 62 (of_decide_eq_true rfl)).trans (f24 62 (of_decide_eq_true rfl))) ((f40 67 (of_decide_eq_true rfl)).trans (f24 67 (of_decide_eq_true rfl))) hI104
              have I100 : jI105 σ38 := jI105_fr ((f41 15 (of_decide_eq_true rfl)).trans (congrFun (f24 55 (of_decide_eq_true rfl)) 15)) ((f40 65 (of_decide_eq_true rfl)).trans (f24 65 (of_decide_eq_true rfl))) hI105
              have I101 : jI106 σ38 := jI106_fr ((f41 32 (of_decide_eq_true rfl)).trans (congrFun (f24 55 (of_decide_eq_true rfl)) 32)) ((f40 70 (of_decide_eq_true rfl)).trans (f24 70 (of_decide_eq_true rfl))) ((f40 71 (of_decide_eq_true rfl)).trans (f24 71 (of_decide_eq_true rfl))) ((f40 72 (of_decide_eq_true rfl)).trans (f24 72 (of_decide_eq_true rfl))) hI106
              have I102 : jI107 σ38 := jI107_fr ((f41 12 (of_decide_eq_true rfl)).trans (congrFun (f24 55 (of_decide_eq_true rfl)) 12)) ((f41 47 (of_decide_eq_true rfl)).trans (congrFun (f24 55 (of_decide_eq_true rfl)) 47)) ((f40 80 (of_decide_eq_true rfl)).trans (f24 80 (of_decide_eq_true rfl))) hI107
              have I103 : jI109 σ38 := jI109_fr ((f41 50 (of_decide_eq_true rfl)).trans (congrFun (f24 55 (of_decide_eq_true rfl)) 50)) hI109
              have I104 : jI110 σ38 := jI110_fr ((f40 86 (of_decide_eq_true rfl)).trans (f24 86 (of_decide_eq_true rfl))) ((f40 87 (of_decide_eq_true rfl)).trans (f24 87 (of_decide_eq_true rfl))) hI110
              have I105 : jI111 σ38 := jI111_fr ((f40 79 (of_decide_eq_true rfl)).trans (f24 79 (of_decide_eq_true rfl))) hI111
              have I106 : jI119 σ38 := jI119_fr ((f40 68 (of_decide_eq_true rfl)).trans (f24 68 (of_decide_eq_true rfl))) hI119
              have p107 : jKept σ38 := jKept.fr ((f40 75 (of_decide_eq_true rfl)).trans (f24 75 (of_decide_eq_true rfl))) ((f40 76 (of_decide_eq_true rfl)).trans (f24 76 (of_decide_eq_true rfl))) ((f40 77 (of_decide_eq_true rfl)).trans (f24 77 (of_decide_eq_true rfl))) hs_jKept
              have p108 : jBook σ38 := jBook.fr ((f41 47 (of_decide_eq_true rfl)).trans (congrFun (f24 55 (of_decide_eq_true rfl)) 47)) ((f41 10 (of_decide_eq_true rfl)).trans (congrFun (f24 55 (of_decide_eq_true rfl)) 10)) ((f40 81 (of_decide_eq_true rfl)).trans (f24 81 (of_decide_eq_true rfl))) hs_jBook
              have z109 : (σ38 9 0).toInt = (σ 9 0).toInt := (congrArg Int32.toInt (show σ38 9 0 = (σ 9 0) from ((congrFun (f40 9 (of_decide_eq_true rfl)) 0).trans (congrFun (f24 9 (of_decide_eq_true rfl)) 0))))
              have z110 : (σ38 55 15).toInt = (σ 55 15).toInt := (congrArg Int32.toInt (show σ38 55 15 = (σ 55 15) from ((f41 15 (of_decide_eq_true rfl)).trans (congrFun (f24 55 (of_decide_eq_true rfl)) 15))))
              have z111 : (σ38 16 0).toInt = (σ 16 0).toInt := (congrArg Int32.toInt (show σ38 16 0 = (σ 16 0) from ((congrFun (f40 16 (of_decide_eq_true rfl)) 0).trans (congrFun (f24 16 (of_decide_eq_true rfl)) 0))))
              have z112 : (σ38 55 10).toInt = (σ 55 10).toInt := (congrArg Int32.toInt (show σ38 55 10 = (σ 55 10) from ((f41 10 (of_decide_eq_true rfl)).trans (congrFun (f24 55 (of_decide_eq_true rfl)) 10))))
              have z113 : (σ38 16 1).toInt = (σ 16 1).toInt := (congrArg Int32.toInt (show σ38 16 1 = (σ 16 1) from ((congrFun (f40 16 (of_decide_eq_true rfl)) 1).trans (congrFun (f24 16 (of_decide_eq_true rfl)) 1))))
              have z114 : (σ38 55 12).toInt = (σ 55 12).toInt := (congrArg Int32.toInt (show σ38 55 12 = (σ 55 12) from ((f41 12 (of_decide_eq_true rfl)).trans (congrFun (f24 55 (of_decide_eq_true rfl)) 12))))
              have z115 : (σ38 16 2).toInt = (σ 16 2).toInt := (congrArg Int32.toInt (show σ38 16 2 = (σ 16 2) from ((congrFun (f40 16 (of_decide_eq_true rfl)) 2).trans (congrFun (f24 16 (of_decide_eq_true rfl)) 2))))
              have z116 : (σ38 55 13).toInt = (σ 55 13).toInt := (congrArg Int32.toInt (show σ38 55 13 = (σ 55 13) from ((f41 13 (of_decide_eq_true rfl)).trans (congrFun (f24 55 (of_decide_eq_true rfl)) 13))))
              exact by exact ih x85 σ38 τ _ _ ls (by have h9 := tx85; omega) ⟨I86, I87, I88, I89, I90, I91, I92, I93, I94, I95, I96, I42, I97, I98, I99, I100, I101, I102, I103, I104, I105, I106, p107, p108, (by omega), (by omega), (by omega), (by omega), (show jTp (σ38 10) (σ38 63) (σ38 55 15).toInt by rw [show σ38 10 = σ 10 from ((f40 10 (of_decide_eq_true rfl)).trans (f24 10 (of_decide_eq_true rfl))), show σ38 63 = σ 63 from ((f40 63 (of_decide_eq_true rfl)).trans (f24 63 (of_decide_eq_true rfl)))]; exact hr0.le (by omega)), (show jSo (σ38 17) (σ38 62) (σ38 16 0).toInt by rw [show σ38 17 = σ 17 from ((f40 17 (of_decide_eq_true rfl)).trans (f24 17 (of_decide_eq_true rfl))), show σ38 62 = σ 62 from ((f40 62 (of_decide_eq_true rfl)).trans (f24 62 (of_decide_eq_true rfl))), show (σ38 16 0).toInt = (σ 16 0).toInt from by omega]; exact hr1)⟩ hP hS (lv_sub hl [0, 1, 2, 3] rfl)
     · obtain ⟨q118, k117⟩ := h29
       refine lv_pop hx hb dL_law_301 rfl ?_
       refine lv_aload_n hx hb dL_law_302 rfl (lv_at hl 1 rfl) ?_
       refine lv_aload_n hx hb dL_law_303 rfl (lv_at hl 3 rfl) ?_
       refine lv_iload_n hx hb dL_law_304 rfl (lv_at hl 0 rfl) ?_
       refine lv_iconst (v := 1) hx hb dL_law_305 (of_decide_eq_true rfl) ?_
       refine lv_iadd hx hb dL_law_306 ?_
       refine jtopr ex16.symm ?_
       exact by
        refine va_sld hx hb hX hbl hbA hS (jin tx16 (by omega) (by omega)) dL_law_307 ?_
        refine lv_aload_n hx hb dL_law_308 rfl (lv_at hl 3 rfl) ?_
        refine lv_iload_n hx hb dL_law_309 rfl (lv_at hl 0 rfl) ?_
        refine lv_iconst (v := 2) hx hb dL_law_310 (of_decide_eq_true rfl) ?_
        refine lv_iadd hx hb dL_law_311 ?_
        refine jtopr ex18.symm ?_
        refine va_sld hx hb hX hbl hbA hS (jin tx18 (by omega) (by omega)) dL_law_312 ?_
        refine lv_aload_n hx hb dL_law_313 rfl (lv_at hl 3 rfl) ?_
        refine lv_iload_n hx hb dL_law_314 rfl (lv_at hl 0 rfl) ?_
        exact by
         refine lv_iconst (v := 3) hx hb dL_law_315 (of_decide_eq_true rfl) ?_
         refine lv_iadd hx hb dL_law_316 ?_
         refine jtopr ex20.symm ?_
         refine va_sld hx hb hX hbl hbA hS (jin tx20 (by omega) (by omega)) dL_law_317 ?_
         have I119 : jI101 σ22 := jI101_fr (congrFun (f24 55 (of_decide_eq_true rfl)) 4) (congrFun (f24 55 (of_decide_eq_true rfl)) 5) (f24 56 (of_decide_eq_true rfl)) (f24 57 (of_decide_eq_true rfl)) (f24 58 (of_decide_eq_true rfl)) (f24 59 (of_decide_eq_true rfl)) hI101
         have z120 : (σ22 55 5).toInt = (σ 55 5).toInt := (congrArg Int32.toInt (show σ22 55 5 = (σ 55 5) from (congrFun (f24 55 (of_decide_eq_true rfl)) 5)))
         have z121 : (σ22 55 4).toInt = (σ 55 4).toInt := (congrArg Int32.toInt (show σ22 55 4 = (σ 55 4) from (congrFun (f24 55 (of_decide_eq_true rfl)) 4)))
         refine jcallV (As := [.int (xs x16.toNatClampNeg), .int (xs x18.toNatClampNeg), .int (xs x20.toNatClampNeg)]) (rest := []) ⟨hx, hb, hml, hown, hts⟩ hK hP hA hS hZ (c_X12_field l D cI cL ad zz hJ σ22 τ (xs x16.toNatClampNeg) ((xs x16.toNatClampNeg).toInt) rfl (xs x18.toNatClampNeg) ((xs x18.toNatClampNeg).toInt) rfl (xs x20.toNatClampNeg) ((xs x20.toNatClampNeg).toInt) rfl I119) cw_RL_25 (jc_55 cI cL ad σ22 τ) rfl ⟨Nat.le_of_ble_eq_true rfl, Nat.le_of_ble_eq_true rfl⟩ rfl rfl rfl hl.1 rfl (Nat.le_of_ble_eq_true rfl) dL_law_318 ⟨Nat.le_of_ble_eq_true rfl, Nat.le_of_ble_eq_true rfl⟩ (fun r123 σ122 τ122 H locs h122 hP hS => ?_)
         obtain ⟨rfl, f124, f125, I126, h122⟩ := h122
         exact by
          rcases h122 with h128 | h129
          · obtain ⟨q134, k130, k131, k132, k133⟩ := h128
            have q134 := q134.symm
            subst q134
            refine lv_pop hx hb dL_law_321 rfl ?_
            refine lv_goto (tgt := 1357) hx hb dL_law_322 (of_decide_eq_true rfl) ?_
            obtain ⟨x135, ex135⟩ : ∃ y : Int32, y = x0 + 6 := ⟨_, rfl⟩
            have tx135 : x135.toInt = x0.toInt + 6 := (jadd ex135 rfl jz_6 (by omega) (by omega)).trans (by omega)
            refine lv_iinc (v := x135) (lv' := [(3, .int x135), (2, .ref (ad 55)), (1, .ref (ad 0)), (0, .ref b)]) hx hb dL_law_1357 hl (k := 0) rfl (by rw [ex135]; rfl) (of_decide_eq_true rfl) rfl (fun ls hl => ?_)
            exact by
             refine lv_goto (tgt := 18) hx hb dL_law_1360 (of_decide_eq_true rfl) ?_
             have I136 : jI2 σ122 := jI2_fr (congrFun (f124 2 (of_decide_eq_true rfl)) 0) (congrFun (f124 2 (of_decide_eq_true rfl)) 1) (congrFun (f124 2 (of_decide_eq_true rfl)) 2) (congrFun (f124 2 (of_decide_eq_true rfl)) 3) (f124 6 (of_decide_eq_true rfl)) I26
             have I137 : jI9 σ122 := jI9_fr ((congrFun (f124 9 (of_decide_eq_true rfl)) 0).trans (congrFun (f24 9 (of_decide_eq_true rfl)) 0)) ((f124 10 (of_decide_eq_true rfl)).trans (f24 10 (of_decide_eq_true rfl))) ((f124 11 (of_decide_eq_true rfl)).trans (f24 11 (of_decide_eq_true rfl))) hI9
             have I138 : jI12 σ122 := jI12_fr ((congrFun (f124 12 (of_decide_eq_true rfl)) 0).trans (congrFun (f24 12 (of_decide_eq_true rfl)) 0)) ((f124 13 (of_decide_eq_true rfl)).trans (f24 13 (of_decide_eq_true rfl))) hI12
             have I139 : jI16 σ122 := jI16_fr ((congrFun (f124 16 (of_decide_eq_true rfl)) 0).trans (congrFun (f24 16 (of_decide_eq_true rfl)) 0)) ((congrFun (f124 16 (of_decide_eq_true rfl)) 1).trans (congrFun (f24 16 (of_decide_eq_true rfl)) 1)) ((congrFun (f124 16 (of_decide_eq_true rfl)) 2).trans (congrFun (f24 16 (of_decide_eq_true rfl)) 2)) ((f124 17 (of_decide_eq_true rfl)).trans (f24 17 (of_decide_eq_true rfl))) hI16
             have I140 : jI18 σ122 := jI18_fr ((congrFun (f124 18 (of_decide_eq_true rfl)) 0).trans (congrFun (f24 18 (of_decide_eq_true rfl)) 0)) ((f124 19 (of_decide_eq_true rfl)).trans (f24 19 (of_decide_eq_true rfl))) hI18
             have I141 : jI22 σ122 := jI22_fr ((congrFun (f124 22 (of_decide_eq_true rfl)) 0).trans (congrFun (f24 22 (of_decide_eq_true rfl)) 0)) ((f124 23 (of_decide_eq_true rfl)).trans (f24 23 (of_decide_eq_true rfl))) hI22
             have I142 : jI31 σ122 := jI31_fr ((congrFun (f124 31 (of_decide_eq_true rfl)) 8).trans (congrFun (f24 31 (of_decide_eq_true rfl)) 8)) ((f124 33 (of_decide_eq_true rfl)).trans (f24 33 (of_decide_eq_true rfl))) ((f124 36 (of_decide_eq_true rfl)).trans (f24 36 (of_decide_eq_true rfl))) hI31
             have I143 : jI38 σ122 := jI38_fr ((congrFun (f124 38 (of_decide_eq_true rfl)) 0).trans (congrFun (f24 38 (of_decide_eq_true rfl)) 0)) ((congrFun (f124 38 (of_decide_eq_true rfl)) 1).trans (congrFun (f24 38 (of_decide_eq_true rfl)) 1)) ((f124 39 (of_decide_eq_true rfl)).trans (f24 39 (of_decide_eq_true rfl))) hI38
             have I144 : jI43 σ122 := jI43_fr ((congrFun (f124 43 (of_decide_eq_true rfl)) 8).trans (congrFun (f24 43 (of_decide_eq_true rfl)) 8)) hI43
             have I145 : jI47 σ122 := jI47_fr ((congrFun (f124 47 (of_decide_eq_true rfl)) 0).trans (congrFun (f24 47 (of_decide_eq_true rfl)) 0)) ((f124 48 (of_decide_eq_true rfl)).trans (f24 48 (of_decide_eq_true rfl))) ((f124 49 (of_decide_eq_true rfl)).trans (f24 49 (of_decide_eq_true rfl))) hI47
             have I146 : jI50 σ122 := jI50_fr ((f124 52 (of_decide_eq_true rfl)).trans (f24 52 (of_decide_eq_true rfl))) hI50
             have I147 : jI102 σ122 := jI102_fr ((f125 6 (of_decide_eq_true rfl)).trans (congrFun (f24 55 (of_decide_eq_true rfl)) 6)) ((f124 60 (of_decide_eq_true rfl)).trans (f24 60 (of_decide_eq_true rfl))) ((f124 61 (of_decide_eq_true rfl)).trans (f24 61 (of_decide_eq_true rfl))) hI102
             have I148 : jI103 σ122 := jI103_fr ((f125 9 (of_decide_eq_true rfl)).trans (congrFun (f24 55 (of_decide_eq_true rfl)) 9)) hI103
             have I149 : jI104 σ122 := jI104_fr ((f125 10 (of_decide_eq_true rfl)).trans (congrFun (f24 55 (of_decide_eq_true rfl)) 10)) ((f125 12 (of_decide_eq_true rfl)).trans (congrFun (f24 55 (of_decide_eq_true rfl)) 12)) ((f125 13 (of_decide_eq_true rfl)).trans (congrFun (f24 55 (of_decide_eq_true rfl)) 13)) ((f124 62 (of_decide_eq_true rfl)).trans (f24 62 (of_decide_eq_true rfl))) ((f124 67 (of_decide_eq_true rfl)).trans (f24 67 (of_decide_eq_true rfl))) hI104
             have I150 : jI105 σ122 := jI105_fr ((f125 15 (of_decide_eq_true rfl)).trans (congrFun (f24 55 (of_decide_eq_true rfl)) 15)) ((f124 65 (of_decide_eq_true rfl)).trans (f24 65 (of_decide_eq_true rfl))) hI105
             have I151 : jI106 σ122 := jI106_fr ((f125 32 (of_decide_eq_true rfl)).trans (congrFun (f24 55 (of_decide_eq_true rfl)) 32)) ((f124 70 (of_decide_eq_true rfl)).trans (f24 70 (of_decide_eq_true rfl))) ((f124 71 (of_decide_eq_true rfl)).trans (f24 71 (of_decide_eq_true rfl))) ((f124 72 (of_decide_eq_true rfl)).trans (f24 72 (of_decide_eq_true rfl))) hI106
             have I152 : jI107 σ122 := jI107_fr ((f125 12 (of_decide_eq_true rfl)).trans (congrFun (f24 55 (of_decide_eq_true rfl)) 12)) ((f125 47 (of_decide_eq_true rfl)).trans (congrFun (f24 55 (of_decide_eq_true rfl)) 47)) ((f124 80 (of_decide_eq_true rfl)).trans (f24 80 (of_decide_eq_true rfl))) hI107
             have I153 : jI109 σ122 := jI109_fr ((f125 50 (of_decide_eq_true rfl)).trans (congrFun (f24 55 (of_decide_eq_true rfl)) 50)) hI109
             have I154 : jI110 σ122 := jI110_fr ((f124 86 (of_decide_eq_true rfl)).trans (f24 86 (of_decide_eq_true rfl))) ((f124 87 (of_decide_eq_true rfl)).trans (f24 87 (of_decide_eq_true rfl))) hI110
             have I155 : jI111 σ122 := jI111_fr ((f124 79 (of_decide_eq_true rfl)).trans (f24 79 (of_decide_eq_true rfl))) hI111
             have I156 : jI119 σ122 := jI119_fr ((f124 68 (of_decide_eq_true rfl)).trans (f24 68 (of_decide_eq_true rfl))) hI119
             have p157 : jKept σ122 := jKept.fr ((f124 75 (of_decide_eq_true rfl)).trans (f24 75 (of_decide_eq_true rfl))) ((f124 76 (of_decide_eq_true rfl)).trans (f24 76 (of_decide_eq_true rfl))) ((f124 77 (of_decide_eq_true rfl)).trans (f24 77 (of_decide_eq_true rfl))) hs_jKept
             have p158 : jBook σ122 := jBook.fr ((f125 47 (of_decide_eq_true rfl)).trans (congrFun (f24 55 (of_decide_eq_true rfl)) 47)) ((f125 10 (of_decide_eq_true rfl)).trans (congrFun (f24 55 (of_decide_eq_true rfl)) 10)) ((f124 81 (of_decide_eq_true rfl)).trans (f24 81 (of_decide_eq_true rfl))) hs_jBook
             have z159 : (σ122 9 0).toInt = (σ 9 0).toInt := (congrArg Int32.toInt (show σ122 9 0 = (σ 9 0) from ((congrFun (f124 9 (of_decide_eq_true rfl)) 0).trans (congrFun (f24 9 (of_decide_eq_true rfl)) 0))))
             have z160 : (σ122 55 15).toInt = (σ 55 15).toInt := (congrArg Int32.toInt (show σ122 55 15 = (σ 55 15) from ((f125 15 (of_decide_eq_true rfl)).trans (congrFun (f24 55 (of_decide_eq_true rfl)) 15))))
             have z161 : (σ122 16 0).toInt = (σ 16 0).toInt := (congrArg Int32.toInt (show σ122 16 0 = (σ 16 0) from ((congrFun (f124 16 (of_decide_eq_true rfl)) 0).trans (congrFun (f24 16 (of_decide_eq_true rfl)) 0))))
             have z162 : (σ122 55 10).toInt = (σ 55 10).toInt := (congrArg Int32.toInt (show σ122 55 10 = (σ 55 10) from ((f125 10 (of_decide_eq_true rfl)).trans (congrFun (f24 55 (of_decide_eq_true rfl)) 10))))
             have z163 : (σ122 16 1).toInt = (σ 16 1).toInt := (congrArg Int32.toInt (show σ122 16 1 = (σ 16 1) from ((congrFun (f124 16 (of_decide_eq_true rfl)) 1).trans (congrFun (f24 16 (of_decide_eq_true rfl)) 1))))
             have z164 : (σ122 55 12).toInt = (σ 55 12).toInt := (congrArg Int32.toInt (show σ122 55 12 = (σ 55 12) from ((f125 12 (of_decide_eq_true rfl)).trans (congrFun (f24 55 (of_decide_eq_true rfl)) 12))))
             have z165 : (σ122 16 2).toInt = (σ 16 2).toInt := (congrArg Int32.toInt (show σ122 16 2 = (σ 16 2) from ((congrFun (f124 16 (of_decide_eq_true rfl)) 2).trans (congrFun (f24 16 (of_decide_eq_true rfl)) 2))))
             have z166 : (σ122 55 13).toInt = (σ 55 13).toInt := (congrArg Int32.toInt (show σ122 55 13 = (σ 55 13) from ((f125 13 (of_decide_eq_true rfl)).trans (congrFun (f24 55 (of_decide_eq_true rfl)) 13))))
             exact by exact ih x135 σ122 τ _ _ ls (by have h9 := tx135; omega) ⟨I136, I137, I138, I139, I140, I141, I142, I143, I144, I145, I146, I126, I147, I148, I149, I150, I151, I152, I153, I154, I155, I156, p157, p158, (by omega), (by omega), (by omega), (by omega), (show jTp (σ122 10) (σ122 63) (σ122 55 15).toInt by rw [show σ122 10 = σ 10 from ((f124 10 (of_decide_eq_true rfl)).trans (f24 10 (of_decide_eq_true rfl))), show σ122 63 = σ 63 from ((f124 63 (of_decide_eq_true rfl)).trans (f24 63 (of_decide_eq_true rfl)))]; exact hr0.le (by omega)), (show jSo (σ122 17) (σ122 62) (σ122 16 0).toInt by rw [show σ122 17 = σ 17 from ((f124 17 (of_decide_eq_true rfl)).trans (f24 17 (of_decide_eq_true rfl))), show σ122 62 = σ 62 from ((f124 62 (of_decide_eq_true rfl)).trans (f24 62 (of_decide_eq_true rfl))), show (σ122 16 0).toInt = (σ 16 0).toInt from by omega]; exact hr1)⟩ hP hS (lv_sub hl [0, 1, 2, 3] rfl)
          · obtain ⟨q168, k167⟩ := h129
            refine lv_pop hx hb dL_law_321 rfl ?_
            refine lv_goto (tgt := 1357) hx hb dL_law_322 (of_decide_eq_true rfl) ?_
            obtain ⟨x169, ex169⟩ : ∃ y : Int32, y = x0 + 6 := ⟨_, rfl⟩
            exact by
             have tx169 : x169.toInt = x0.toInt + 6 := (jadd ex169 rfl jz_6 (by omega) (by omega)).trans (by omega)
             refine lv_iinc (v := x169) (lv' := [(3, .int x169), (2, .ref (ad 55)), (1, .ref (ad 0)), (0, .ref b)]) hx hb dL_law_1357 hl (k := 0) rfl (by rw [ex169]; rfl) (of_decide_eq_true rfl) rfl (fun ls hl => ?_)
             refine lv_goto (tgt := 18) hx hb dL_law_1360 (of_decide_eq_true rfl) ?_
             have I170 : jI2 σ122 := jI2_fr (congrFun (f124 2 (of_decide_eq_true rfl)) 0) (congrFun (f124 2 (of_decide_eq_true rfl)) 1) (congrFun (f124 2 (of_decide_eq_true rfl)) 2) (congrFun (f124 2 (of_decide_eq_true rfl)) 3) (f124 6 (of_decide_eq_true rfl)) I26
             have I171 : jI9 σ122 := jI9_fr ((congrFun (f124 9 (of_decide_eq_true rfl)) 0).trans (congrFun (f24 9 (of_decide_eq_true rfl)) 0)) ((f124 10 (of_decide_eq_true rfl)).trans (f24 10 (of_decide_eq_true rfl))) ((f124 11 (of_decide_eq_true rfl)).trans (f24 11 (of_decide_eq_true rfl))) hI9
             have I172 : jI12 σ122 := jI12_fr ((congrFun (f124 12 (of_decide_eq_true rfl)) 0).trans (congrFun (f24 12 (of_decide_eq_true rfl)) 0)) ((f124 13 (of_decide_eq_true rfl)).trans (f24 13 (of_decide_eq_true rfl))) hI12
             have I173 : jI16 σ122 := jI16_fr ((congrFun (f124 16 (of_decide_eq_true rfl)) 0).trans (congrFun (f24 16 (of_decide_eq_true rfl)) 0)) ((congrFun (f124 16 (of_decide_eq_true rfl)) 1).trans (congrFun (f24 16 (of_decide_eq_true rfl)) 1)) ((congrFun (f124 16 (of_decide_eq_true rfl)) 2).trans (congrFun (f24 16 (of_decide_eq_true rfl)) 2)) ((f124 17 (of_decide_eq_true rfl)).trans (f24 17 (of_decide_eq_true rfl))) hI16
             have I174 : jI18 σ122 := jI18_fr ((congrFun (f124 18 (of_decide_eq_true rfl)) 0).trans (congrFun (f24 18 (of_decide_eq_true rfl)) 0)) ((f124 19 (of_decide_eq_true rfl)).trans (f24 19 (of_decide_eq_true rfl))) hI18
             have I175 : jI22 σ122 := jI22_fr ((congrFun (f124 22 (of_decide_eq_true rfl)) 0).trans (congrFun (f24 22 (of_decide_eq_true rfl)) 0)) ((f124 23 (of_decide_eq_true rfl)).trans (f24 23 (of_decide_eq_true rfl))) hI22
             exact by
              have I176 : jI31 σ122 := jI31_fr ((congrFun (f124 31 (of_decide_eq_true rfl)) 8).trans (congrFun (f24 31 (of_decide_eq_true rfl)) 8)) ((f124 33 (of_decide_eq_true rfl)).trans (f24 33 (of_decide_eq_true rfl))) ((f124 36 (of_decide_eq_true rfl)).trans (f24 36 (of_decide_eq_true rfl))) hI31
              have I177 : jI38 σ122 := jI38_fr ((congrFun (f124 38 (of_decide_eq_true rfl)) 0).trans (congrFun (f24 38 (of_decide_eq_true rfl)) 0)) ((congrFun (f124 38 (of_decide_eq_true rfl)) 1).trans (congrFun (f24 38 (of_decide_eq_true rfl)) 1)) ((f124 39 (of_decide_eq_true rfl)).trans (f24 39 (of_decide_eq_true rfl))) hI38
              have I178 : jI43 σ122 := jI43_fr ((congrFun (f124 43 (of_decide_eq_true rfl)) 8).trans (congrFun (f24 43 (of_decide_eq_true rfl)) 8)) hI43
              have I179 : jI47 σ122 := jI47_fr ((congrFun (f124 47 (of_decide_eq_true rfl)) 0).trans (congrFun (f24 47 (of_decide_eq_true rfl)) 0)) ((f124 48 (of_decide_eq_true rfl)).trans (f24 48 (of_decide_eq_true rfl))) ((f124 49 (of_decide_eq_true rfl)).trans (f24 49 (of_decide_eq_true rfl))) hI47
              have I180 : jI50 σ122 := jI50_fr ((f124 52 (of_decide_eq_true rfl)).trans (f24 52 (of_decide_eq_true rfl))) hI50
              have I181 : jI102 σ122 := jI102_fr ((f125 6 (of_decide_eq_true rfl)).trans (congrFun (f24 55 (of_decide_eq_true rfl)) 6)) ((f124 60 (of_decide_eq_true rfl)).trans (f24 60 (of_decide_eq_true rfl))) ((f124 61 (of_decide_eq_true rfl)).trans (f24 61 (of_decide_eq_true rfl))) hI102
              have I182 : jI103 σ122 := jI103_fr ((f125 9 (of_decide_eq_true rfl)).trans (congrFun (f24 55 (of_decide_eq_true rfl)) 9)) hI103
              have I183 : jI104 σ122 := jI104_fr ((f125 10 (of_decide_eq_true rfl)).trans (congrFun (f24 55 (of_decide_eq_true rfl)) 10)) ((f125 12 (of_decide_eq_true rfl)).trans (congrFun (f24 55 (of_decide_eq_true rfl)) 12)) ((f125 13 (of_decide_eq_true rfl)).trans (congrFun (f24 55 (of_decide_eq_true rfl)) 13)) ((f124 62 (of_decide_eq_true rfl)).trans (f24 62 (of_decide_eq_true rfl))) ((f124 67 (of_decide_eq_true rfl)).trans (f24 67 (of_decide_eq_true rfl))) hI104
              have I184 : jI105 σ122 := jI105_fr ((f125 15 (of_decide_eq_true rfl)).trans (congrFun (f24 55 (of_decide_eq_true rfl)) 15)) ((f124 65 (of_decide_eq_true rfl)).trans (f24 65 (of_decide_eq_true rfl))) hI105
              have I185 : jI106 σ122 := jI106_fr ((f125 32 (of_decide_eq_true rfl)).trans (congrFun (f24 55 (of_decide_eq_true rfl)) 32)) ((f124 70 (of_decide_eq_true rfl)).trans (f24 70 (of_decide_eq_true rfl))) ((f124 71 (of_decide_eq_true rfl)).trans (f24 71 (of_decide_eq_true rfl))) ((f124 72 (of_decide_eq_true rfl)).trans (f24 72 (of_decide_eq_true rfl))) hI106
              have I186 : jI107 σ122 := jI107_fr ((f125 12 (of_decide_eq_true rfl)).trans (congrFun (f24 55 (of_decide_eq_true rfl)) 12)) ((f125 47 (of_decide_eq_true rfl)).trans (congrFun (f24 55 (of_decide_eq_true rfl)) 47)) ((f124 80 (of_decide_eq_true rfl)).trans (f24 80 (of_decide_eq_true rfl))) hI107
              have I187 : jI109 σ122 := jI109_fr ((f125 50 (of_decide_eq_true rfl)).trans (congrFun (f24 55 (of_decide_eq_true rfl)) 50)) hI109
              have I188 : jI110 σ122 := jI110_fr ((f124 86 (of_decide_eq_true rfl)).trans (f24 86 (of_decide_eq_true rfl))) ((f124 87 (of_decide_eq_true rfl)).trans (f24 87 (of_decide_eq_true rfl))) hI110
              have I189 : jI111 σ122 := jI111_fr ((f124 79 (of_decide_eq_true rfl)).trans (f24 79 (of_decide_eq_true rfl))) hI111
              have I190 : jI119 σ122 := jI119_fr ((f124 68 (of_decide_eq_true rfl)).trans (f24 68 (of_decide_eq_true rfl))) hI119
              have p191 : jKept σ122 := jKept.fr ((f124 75 (of_decide_eq_true rfl)).trans (f24 75 (of_decide_eq_true rfl))) ((f124 76 (of_decide_eq_true rfl)).trans (f24 76 (of_decide_eq_true rfl))) ((f124 77 (of_decide_eq_true rfl)).trans (f24 77 (of_decide_eq_true rfl))) hs_jKept
              have p192 : jBook σ122 := jBook.fr ((f125 47 (of_decide_eq_true rfl)).trans (congrFun (f24 55 (of_decide_eq_true rfl)) 47)) ((f125 10 (of_decide_eq_true rfl)).trans (congrFun (f24 55 (of_decide_eq_true rfl)) 10)) ((f124 81 (of_decide_eq_true rfl)).trans (f24 81 (of_decide_eq_true rfl))) hs_jBook
              have z193 : (σ122 9 0).toInt = (σ 9 0).toInt := (congrArg Int32.toInt (show σ122 9 0 = (σ 9 0) from ((congrFun (f124 9 (of_decide_eq_true rfl)) 0).trans (congrFun (f24 9 (of_decide_eq_true rfl)) 0))))
              have z194 : (σ122 55 15).toInt = (σ 55 15).toInt := (congrArg Int32.toInt (show σ122 55 15 = (σ 55 15) from ((f125 15 (of_decide_eq_true rfl)).trans (congrFun (f24 55 (of_decide_eq_true rfl)) 15))))
              have z195 : (σ122 16 0).toInt = (σ 16 0).toInt := (congrArg Int32.toInt (show σ122 16 0 = (σ 16 0) from ((congrFun (f124 16 (of_decide_eq_true rfl)) 0).trans (congrFun (f24 16 (of_decide_eq_true rfl)) 0))))
              have z196 : (σ122 55 10).toInt = (σ 55 10).toInt := (congrArg Int32.toInt (show σ122 55 10 = (σ 55 10) from ((f125 10 (of_decide_eq_true rfl)).trans (congrFun (f24 55 (of_decide_eq_true rfl)) 10))))
              have z197 : (σ122 16 1).toInt = (σ 16 1).toInt := (congrArg Int32.toInt (show σ122 16 1 = (σ 16 1) from ((congrFun (f124 16 (of_decide_eq_true rfl)) 1).trans (congrFun (f24 16 (of_decide_eq_true rfl)) 1))))
              have z198 : (σ122 55 12).toInt = (σ 55 12).toInt := (congrArg Int32.toInt (show σ122 55 12 = (σ 55 12) from ((f125 12 (of_decide_eq_true rfl)).trans (congrFun (f24 55 (of_decide_eq_true rfl)) 12))))
              have z199 : (σ122 16 2).toInt = (σ 16 2).toInt := (congrArg Int32.toInt (show σ122 16 2 = (σ 16 2) from ((congrFun (f124 16 (of_decide_eq_true rfl)) 2).trans (congrFun (f24 16 (of_decide_eq_true rfl)) 2))))
              have z200 : (σ122 55 13).toInt = (σ 55 13).toInt := (congrArg Int32.toInt (show σ122 55 13 = (σ 55 13) from ((f125 13 (of_decide_eq_true rfl)).trans (congrFun (f24 55 (of_decide_eq_true rfl)) 13))))
              exact by exact ih x169 σ122 τ _ _ ls (by have h9 := tx169; omega) ⟨I170, I171, I172, I173, I174, I175, I176, I177, I178, I179, I180, I126, I181, I182, I183, I184, I185, I186, I187, I188, I189, I190, p191, p192, (by omega), (by omega), (by omega), (by omega), (show jTp (σ122 10) (σ122 63) (σ122 55 15).toInt by rw [show σ122 10 = σ 10 from ((f124 10 (of_decide_eq_true rfl)).trans (f24 10 (of_decide_eq_true rfl))), show σ122 63 = σ 63 from ((f124 63 (of_decide_eq_true rfl)).trans (f24 63 (of_decide_eq_true rfl)))]; exact hr0.le (by omega)), (show jSo (σ122 17) (σ122 62) (σ122 16 0).toInt by rw [show σ122 17 = σ 17 from ((f124 17 (of_decide_eq_true rfl)).trans (f24 17 (of_decide_eq_true rfl))), show σ122 62 = σ 62 from ((f124 62 (of_decide_eq_true rfl)).trans (f24 62 (of_decide_eq_true rfl))), show (σ122 16 0).toInt = (σ 16 0).toInt from by omega]; exact hr1)⟩ hP hS (lv_sub hl [0, 1, 2, 3] rfl)
set_option maxHeartbeats 4000000 in
set_option maxRecDepth 100000 in
theorem law_case_3 {p : Program} {e : Env} {s : State} {m : MethodId} {below : List Frame} {meth : Method} {c : Code} (l : Launch) {b L : Nat} {xs : Nat → Int32} {D : va_G} {cI cL : ClassId} {ad zz : Nat → Nat} (C0 : lw_At p s m meth c b L xs) (hJ : jD ad) (hA : ∀ q, jA ad q → s.heap.size ≤ q) (hK : jK D cI cL s) (hZ : jZ zz (fun q : Nat => s.heap.size ≤ q) s s.heap) {x0 : Int32} (hx0 : 0 ≤ x0.toInt) (hxL : x0.toInt + 6 ≤ (L : Int)) (hL : L ≤ 384) {σ : Nat → Nat → Int32} {τ : Nat → Nat → Int64} {H : Heap} {locs : List Loc} (hS : va_S (fun q : Nat => s.heap.size ≤ q) s.heap H locs) {ls : Array Slot} (hAll : jAll σ τ) (hP : jH D cI cL ad σ τ H) (hl : lv_has ls 4 [(3, .int x0), (2, .ref (ad 55)), (1, .ref (ad 0)), (0, .ref b)]) (ih : ∀ (x1 : Int32) (σ : Nat → Nat → Int32) (τ : Nat → Nat → Int64) (H : Heap) (locs : List Loc) (ls : Array Slot), x1.toInt = x0.toInt + 6 → jAll σ τ → jH D cI cL ad σ τ H → va_S (fun q : Nat => s.heap.size ≤ q) s.heap H locs → lv_has ls 4 [(3, .int x1), (2, .ref (ad 55)), (1, .ref (ad 0)), (0, .ref b)] → W p l e room_1 s m #[Value.ref b] below meth c H locs 90 348600 (lw_Z below #[Value.ref b] s) (F0 m 18 ls [])) : W p l e room_1 s m #[Value.ref b] below meth c H locs 90 348600 (lw_Z below #[Value.ref b] s) (F0 m 325 ls []) := by
  obtain ⟨hx, hb, hr, hml, hown, hts0, hX, hbl, hlocks, hgv⟩ := C0
  have hts : ∀ w ∈ wsL_law, w.before #[Value.ref b] s = true := fun w h => hts0 w (wsL_law_in w h)
  have hbA : ¬ (fun q : Nat => s.heap.size ≤ q) b := Nat.not_le.mpr hbl
  have hown : s.vm.findClass RL = some m.cls := hown
  obtain ⟨hI2, hI9, hI12, hI16, hI18, hI22, hI31, hI38, hI43, hI47, hI50, hI101, hI102, hI103, hI104, hI105, hI106, hI107, hI109, hI110, hI111, hI119, hs_jKept, hs_jBook, ht0, ht1, ht2, ht3, hr0, hr1⟩ := hAll
  have hL9 : (L : Int) ≤ 384 := by omega
  obtain ⟨i1, w2, w3⟩ : (0 ≤ (σ 9 0).toInt ∧ (σ 9 0).toInt ≤ 80) ∧ (∀ k : Nat, k < 80 → 0 ≤ (σ 10 k).toInt ∧ (σ 10 k).toInt ≤ 255) ∧ (∀ k : Nat, k < 8 → 0 ≤ (σ 11 k).toInt ∧ (σ 11 k).toInt ≤ 3) := id hI9
  obtain ⟨i4, i5, i6, w7⟩ : (1 ≤ (σ 16 0).toInt ∧ (σ 16 0).toInt ≤ 8) ∧ (1 ≤ (σ 16 1).toInt ∧ (σ 16 1).toInt ≤ 12) ∧ (0 ≤ (σ 16 2).toInt ∧ (σ 16 2).toInt ≤ 999) ∧ (∀ k : Nat, k < 8 → 0 ≤ (σ 17 k).toInt ∧ (σ 17 k).toInt ≤ 3) := id hI16
  obtain ⟨i8, i9, i10, w11, w12⟩ : (1 ≤ (σ 55 10).toInt ∧ (σ 55 10).toInt ≤ 8) ∧ (1 ≤ (σ 55 12).toInt ∧ (σ 55 12).toInt ≤ 12) ∧ (0 ≤ (σ 55 13).toInt ∧ (σ 55 13).toInt ≤ 999) ∧ (∀ k : Nat, k < 8 → 0 ≤ (σ 62 k).toInt ∧ (σ 62 k).toInt ≤ 3) ∧ (∀ k : Nat, k < 8 → 0 ≤ (σ 67 k).toInt ∧ (σ 67 k).toInt ≤ 3) := id hI104
  obtain ⟨i13, w14⟩ : (0 ≤ (σ 55 15).toInt ∧ (σ 55 15).toInt ≤ 80) ∧ (∀ k : Nat, k < 2 → (-1) ≤ (σ 65 k).toInt ∧ (σ 65 k).toInt ≤ 80) := id hI105
  refine lv_aload_n hx hb dL_law_325 rfl (lv_at hl 2 rfl) ?_
  refine lv_aload_n hx hb dL_law_326 rfl (lv_at hl 3 rfl) ?_
  refine lv_iload_n hx hb dL_law_327 rfl (lv_at hl 0 rfl) ?_
  refine lv_iconst (v := 1) hx hb dL_law_328 (of_decide_eq_true rfl) ?_
  have g15 := jrg (rfl : x0.toInt = x0.toInt)
  refine lv_iadd hx hb dL_law_329 ?_
  refine lv_topi (fun x16 ex16 => ?_)
  exact by
   have tx16 : x16.toInt = x0.toInt + 1 := (jadd ex16 rfl jz_1 (by omega) (by omega)).trans (by omega)
   refine va_sld hx hb hX hbl hbA hS (jin tx16 (by omega) (by omega)) dL_law_330 ?_
   have g17 := jrg (rfl : (xs x16.toNatClampNeg).toInt = (xs x16.toNatClampNeg).toInt)
   refine jcallV (As := [.int (xs x16.toNatClampNeg)]) (rest := []) ⟨hx, hb, hml, hown, hts⟩ hK hP hA hS hZ (c_X11_set l D cI cL ad zz hJ σ τ (xs x16.toNatClampNeg) ((xs x16.toNatClampNeg).toInt) rfl hI2) cw_RL_26 (jc_0 cI cL ad σ τ) rfl ⟨Nat.le_of_ble_eq_true rfl, Nat.le_of_ble_eq_true rfl⟩ rfl rfl rfl hl.1 rfl (Nat.le_of_ble_eq_true rfl) dL_law_331 ⟨Nat.le_of_ble_eq_true rfl, Nat.le_of_ble_eq_true rfl⟩ (fun r19 σ18 τ18 H locs h18 hP hS => ?_)
   obtain ⟨rfl, f20, f21, I22, h18⟩ := h18
   rcases h18 with h24 | h25
   · obtain ⟨q29, k26, k27, k28⟩ := h24
     refine lv_pop hx hb dL_law_334 rfl ?_
     refine lv_aload_n hx hb dL_law_335 rfl (lv_at hl 1 rfl) ?_
     exact by
      refine lv_aload_n hx hb dL_law_336 rfl (lv_at hl 3 rfl) ?_
      refine lv_iload_n hx hb dL_law_337 rfl (lv_at hl 0 rfl) ?_
      refine lv_iconst (v := 1) hx hb dL_law_338 (of_decide_eq_true rfl) ?_
      refine lv_iadd hx hb dL_law_339 ?_
      refine jtopr ex16.symm ?_
      refine va_sld hx hb hX hbl hbA hS (jin tx16 (by omega) (by omega)) dL_law_340 ?_
      have I30 : jI103 σ18 := jI103_fr (congrFun (f20 55 (of_decide_eq_true rfl)) 9) hI103
      have z31 : (σ18 55 9).toInt = (σ 55 9).toInt := (congrArg Int32.toInt (show σ18 55 9 = (σ 55 9) from (congrFun (f20 55 (of_decide_eq_true rfl)) 9)))
      refine jcallV (As := [.int (xs x16.toNatClampNeg)]) (rest := []) ⟨hx, hb, hml, hown, hts⟩ hK hP hA hS hZ (c_X12_set l D cI cL ad zz hJ σ18 τ (xs x16.toNatClampNeg) ((xs x16.toNatClampNeg).toInt) rfl I30) cw_RL_30 (jc_55 cI cL ad σ18 τ) rfl ⟨Nat.le_of_ble_eq_true rfl, Nat.le_of_ble_eq_true rfl⟩ rfl rfl rfl hl.1 rfl (Nat.le_of_ble_eq_true rfl) dL_law_341 ⟨Nat.le_of_ble_eq_true rfl, Nat.le_of_ble_eq_true rfl⟩ (fun r33 σ32 τ32 H locs h32 hP hS => ?_)
      exact by
       obtain ⟨rfl, f34, f35, I36, h32⟩ := h32
       rcases h32 with h38 | h39
       · obtain ⟨q43, k40, k41, k42⟩ := h38
         refine lv_pop hx hb dL_law_344 rfl ?_
         refine lv_goto (tgt := 1357) hx hb dL_law_345 (of_decide_eq_true rfl) ?_
         obtain ⟨x44, ex44⟩ : ∃ y : Int32, y = x0 + 6 := ⟨_, rfl⟩
         have tx44 : x44.toInt = x0.toInt + 6 := (jadd ex44 rfl jz_6 (by omega) (by omega)).trans (by omega)
         refine lv_iinc (v := x44) (lv' := [(3, .int x44), (2, .ref (ad 55)), (1, .ref (ad 0)), (0, .ref b)]) hx hb dL_law_1357 hl (k := 0) rfl (by rw [ex44]; rfl) (of_decide_eq_true rfl) rfl (fun ls hl => ?_)
         refine lv_goto (tgt := 18) hx hb dL_law_1360 (of_decide_eq_true rfl) ?_
         exact by
          have I45 : jI2 σ32 := jI2_fr (congrFun (f34 2 (of_decide_eq_true rfl)) 0) (congrFun (f34 2 (of_decide_eq_true rfl)) 1) (congrFun (f34 2 (of_decide_eq_true rfl)) 2) (congrFun (f34 2 (of_decide_eq_true rfl)) 3) (f34 6 (of_decide_eq_true rfl)) I22
          have I46 : jI9 σ32 := jI9_fr ((congrFun (f34 9 (of_decide_eq_true rfl)) 0).trans (congrFun (f20 9 (of_decide_eq_true rfl)) 0)) ((f34 10 (of_decide_eq_true rfl)).trans (f20 10 (of_decide_eq_true rfl))) ((f34 11 (of_decide_eq_true rfl)).trans (f20 11 (of_decide_eq_true rfl))) hI9
          have I47 : jI12 σ32 := jI12_fr ((congrFun (f34 12 (of_decide_eq_true rfl)) 0).trans (congrFun (f20 12 (of_decide_eq_true rfl)) 0)) ((f34 13 (of_decide_eq_true rfl)).trans (f20 13 (of_decide_eq_true rfl))) hI12
          have I48 : jI16 σ32 := jI16_fr ((congrFun (f34 16 (of_decide_eq_true rfl)) 0).trans (congrFun (f20 16 (of_decide_eq_true rfl)) 0)) ((congrFun (f34 16 (of_decide_eq_true rfl)) 1).trans (congrFun (f20 16 (of_decide_eq_true rfl)) 1)) ((congrFun (f34 16 (of_decide_eq_true rfl)) 2).trans (congrFun (f20 16 (of_decide_eq_true rfl)) 2)) ((f34 17 (of_decide_eq_true rfl)).trans (f20 17 (of_decide_eq_true rfl))) hI16
          have I49 : jI18 σ32 := jI18_fr ((congrFun (f34 18 (of_decide_eq_true rfl)) 0).trans (congrFun (f20 18 (of_decide_eq_true rfl)) 0)) ((f34 19 (of_decide_eq_true rfl)).trans (f20 19 (of_decide_eq_true rfl))) hI18
          have I50 : jI22 σ32 := jI22_fr ((congrFun (f34 22 (of_decide_eq_true rfl)) 0).trans (congrFun (f20 22 (of_decide_eq_true rfl)) 0)) ((f34 23 (of_decide_eq_true rfl)).trans (f20 23 (of_decide_eq_true rfl))) hI22
          have I51 : jI31 σ32 := jI31_fr ((congrFun (f34 31 (of_decide_eq_true rfl)) 8).trans (congrFun (f20 31 (of_decide_eq_true rfl)) 8)) ((f34 33 (of_decide_eq_true rfl)).trans (f20 33 (of_decide_eq_true rfl))) ((f34 36 (of_decide_eq_true rfl)).trans (f20 36 (of_decide_eq_true rfl))) hI31
          have I52 : jI38 σ32 := jI38_fr ((congrFun (f34 38 (of_decide_eq_true rfl)) 0).trans (congrFun (f20 38 (of_decide_eq_true rfl)) 0)) ((congrFun (f34 38 (of_decide_eq_true rfl)) 1).trans (congrFun (f20 38 (of_decide_eq_true rfl)) 1)) ((f34 39 (of_decide_eq_true rfl)).trans (f20 39 (of_decide_eq_true rfl))) hI38
          have I53 : jI43 σ32 := jI43_fr ((congrFun (f34 43 (of_decide_eq_true rfl)) 8).trans (congrFun (f20 43 (of_decide_eq_true rfl)) 8)) hI43
          have I54 : jI47 σ32 := jI47_fr ((congrFun (f34 47 (of_decide_eq_true rfl)) 0).trans (congrFun (f20 47 (of_decide_eq_true rfl)) 0)) ((f34 48 (of_decide_eq_true rfl)).trans (f20 48 (of_decide_eq_true rfl))) ((f34 49 (of_decide_eq_true rfl)).trans (f20 49 (of_decide_eq_true rfl))) hI47
          have I55 : jI50 σ32 := jI50_fr ((f34 52 (of_decide_eq_true rfl)).trans (f20 52 (of_decide_eq_true rfl))) hI50
          have I56 : jI101 σ32 := jI101_fr ((f35 4 (of_decide_eq_true rfl)).trans (congrFun (f20 55 (of_decide_eq_true rfl)) 4)) ((f35 5 (of_decide_eq_true rfl)).trans (congrFun (f20 55 (of_decide_eq_true rfl)) 5)) ((f34 56 (of_decide_eq_true rfl)).trans (f20 56 (of_decide_eq_true rfl))) ((f34 57 (of_decide_eq_true rfl)).trans (f20 57 (of_decide_eq_true rfl))) ((f34 58 (of_decide_eq_true rfl)).trans (f20 58 (of_decide_eq_true rfl))) ((f34 59 (of_decide_eq_true rfl)).trans (f20 59 (of_decide_eq_true rfl))) hI101
          have I57 : jI102 σ32 := jI102_fr ((f35 6 (of_decide_eq_true rfl)).trans (congrFun (f20 55 (of_decide_eq_true rfl)) 6)) ((f34 60 (of_decide_eq_true rfl)).trans (f20 60 (of_decide_eq_true rfl))) ((f34 61 (of_decide_eq_true rfl)).trans (f20 61 (of_decide_eq_true rfl))) hI102
          have I58 : jI104 σ32 := jI104_fr ((f35 10 (of_decide_eq_true rfl)).trans (congrFun (f20 55 (of_decide_eq_true rfl)) 10)) ((f35 12 (of_decide_eq_true rfl)).trans (congrFun (f20 55 (of_decide_eq_true rfl)) 12)) ((f35 13 (of_decide_eq_true rfl)).trans (congrFun (f20 55 (of_decide_eq_true rfl)) 13)) ((f34 62 (of_decide_eq_true rfl)).trans (f20 62 (of_decide_eq_true rfl))) ((f34 67 (of_decide_eq_true rfl)).trans (f20 67 (of_decide_eq_true rfl))) hI104
          have I59 : jI105 σ32 := jI105_fr ((f35 15 (of_decide_eq_true rfl)).trans (congrFun (f20 55 (of_decide_eq_true rfl)) 15)) ((f34 65 (of_decide_eq_true rfl)).trans (f20 65 (of_decide_eq_true rfl))) hI105
          have I60 : jI106 σ32 := jI106_fr ((f35 32 (of_decide_eq_true rfl)).trans (congrFun (f20 55 (of_decide_eq_true rfl)) 32)) ((f34 70 (of_decide_eq_true rfl)).trans (f20 70 (of_decide_eq_true rfl))) ((f34 71 (of_decide_eq_true rfl)).trans (f20 71 (of_decide_eq_true rfl))) ((f34 72 (of_decide_eq_true rfl)).trans (f20 72 (of_decide_eq_true rfl))) hI106
          have I61 : jI107 σ32 := jI107_fr ((f35 12 (of_decide_eq_true rfl)).trans (congrFun (f20 55 (of_decide_eq_true rfl)) 12)) ((f35 47 (of_decide_eq_true rfl)).trans (congrFun (f20 55 (of_decide_eq_true rfl)) 47)) ((f34 80 (of_decide_eq_true rfl)).trans (f20 80 (of_decide_eq_true rfl))) hI107
          have I62 : jI109 σ32 := jI109_fr ((f35 50 (of_decide_eq_true rfl)).trans (congrFun (f20 55 (of_decide_eq_true rfl)) 50)) hI109
          have I63 : jI110 σ32 := jI110_fr ((f34 86 (of_decide_eq_true rfl)).trans (f20 86 (of_decide_eq_true rfl))) ((f34 87 (of_decide_eq_true rfl)).trans (f20 87 (of_decide_eq_true rfl))) hI110
          have I64 : jI111 σ32 := jI111_fr ((f34 79 (of_decide_eq_true rfl)).trans (f20 79 (of_decide_eq_true rfl))) hI111
          have I65 : jI119 σ32 := jI119_fr ((f34 68 (of_decide_eq_true rfl)).trans (f20 68 (of_decide_eq_true rfl))) hI119
          have p66 : jKept σ32 := jKept.fr ((f34 75 (of_decide_eq_true rfl)).trans (f20 75 (of_decide_eq_true rfl))) ((f34 76 (of_decide_eq_true rfl)).trans (f20 76 (of_decide_eq_true rfl))) ((f34 77 (of_decide_eq_true rfl)).trans (f20 77 (of_decide_eq_true rfl))) hs_jKept
          have p67 : jBook σ32 := jBook.fr ((f35 47 (of_decide_eq_true rfl)).trans (congrFun (f20 55 (of_decide_eq_true rfl)) 47)) ((f35 10 (of_decide_eq_true rfl)).trans (congrFun (f20 55 (of_decide_eq_true rfl)) 10)) ((f34 81 (of_decide_eq_true rfl)).trans (f20 81 (of_decide_eq_true rfl))) hs_jBook
          have z68 : (σ32 9 0).toInt = (σ 9 0).toInt := (congrArg Int32.toInt (show σ32 9 0 = (σ 9 0) from ((congrFun (f34 9 (of_decide_eq_true rfl)) 0).trans (congrFun (f20 9 (of_decide_eq_true rfl)) 0))))
          have z69 : (σ32 55 15).toInt = (σ 55 15).toInt := (congrArg Int32.toInt (show σ32 55 15 = (σ 55 15) from ((f35 15 (of_decide_eq_true rfl)).trans (congrFun (f20 55 (of_decide_eq_true rfl)) 15))))
          have z70 : (σ32 16 0).toInt = (σ 16 0).toInt := (congrArg Int32.toInt (show σ32 16 0 = (σ 16 0) from ((congrFun (f34 16 (of_decide_eq_true rfl)) 0).trans (congrFun (f20 16 (of_decide_eq_true rfl)) 0))))
          have z71 : (σ32 55 10).toInt = (σ 55 10).toInt := (congrArg Int32.toInt (show σ32 55 10 = (σ 55 10) from ((f35 10 (of_decide_eq_true rfl)).trans (congrFun (f20 55 (of_decide_eq_true rfl)) 10))))
          have z72 : (σ32 16 1).toInt = (σ 16 1).toInt := (congrArg Int32.toInt (show σ32 16 1 = (σ 16 1) from ((congrFun (f34 16 (of_decide_eq_true rfl)) 1).trans (congrFun (f20 16 (of_decide_eq_true rfl)) 1))))
          have z73 : (σ32 55 12).toInt = (σ 55 12).toInt := (congrArg Int32.toInt (show σ32 55 12 = (σ 55 12) from ((f35 12 (of_decide_eq_true rfl)).trans (congrFun (f20 55 (of_decide_eq_true rfl)) 12))))
          have z74 : (σ32 16 2).toInt = (σ 16 2).toInt := (congrArg Int32.toInt (show σ32 16 2 = (σ 16 2) from ((congrFun (f34 16 (of_decide_eq_true rfl)) 2).trans (congrFun (f20 16 (of_decide_eq_true rfl)) 2))))
          have z75 : (σ32 55 13).toInt = (σ 55 13).toInt := (congrArg Int32.toInt (show σ32 55 13 = (σ 55 13) from ((f35 13 (of_decide_eq_true rfl)).trans (congrFun (f20 55 (of_decide_eq_true rfl)) 13))))
          exact by exact ih x44 σ32 τ _ _ ls (by have h9 := tx44; omega) ⟨I45, I46, I47, I48, I49, I50, I51, I52, I53, I54, I55, I56, I57, I36, I58, I59, I60, I61, I62, I63, I64, I65, p66, p67, (by omega), (by omega), (by omega), (by omega), (show jTp (σ32 10) (σ32 63) (σ32 55 15).toInt by rw [show σ32 10 = σ 10 from ((f34 10 (of_decide_eq_true rfl)).trans (f20 10 (of_decide_eq_true rfl))), show σ32 63 = σ 63 from ((f34 63 (of_decide_eq_true rfl)).trans (f20 63 (of_decide_eq_true rfl)))]; exact hr0.le (by omega)), (show jSo (σ32 17) (σ32 62) (σ32 16 0).toInt by rw [show σ32 17 = σ 17 from ((f34 17 (of_decide_eq_true rfl)).trans (f20 17 (of_decide_eq_true rfl))), show σ32 62 = σ 62 from ((f34 62 (of_decide_eq_true rfl)).trans (f20 62 (of_decide_eq_true rfl))), show (σ32 16 0).toInt = (σ 16 0).toInt from by omega]; exact hr1)⟩ hP hS (lv_sub hl [0, 1, 2, 3] rfl)
       · obtain ⟨q78, k76, k77⟩ := h39
         exact absurd (by omega : False) id
   · obtain ⟨q81, k79, k80⟩ := h25
     have q81 := q81.symm
     subst q81
     refine lv_pop hx hb dL_law_334 rfl ?_
     refine lv_aload_n hx hb dL_law_335 rfl (lv_at hl 1 rfl) ?_
     refine lv_aload_n hx hb dL_law_336 rfl (lv_at hl 3 rfl) ?_
     refine lv_iload_n hx hb dL_law_337 rfl (lv_at hl 0 rfl) ?_
     refine lv_iconst (v := 1) hx hb dL_law_338 (of_decide_eq_true rfl) ?_
     refine lv_iadd hx hb dL_law_339 ?_
     refine jtopr ex16.symm ?_
     exact by
      refine va_sld hx hb hX hbl hbA hS (jin tx16 (by omega) (by omega)) dL_law_340 ?_
      have I82 : jI103 σ18 := jI103_fr (congrFun (f20 55 (of_decide_eq_true rfl)) 9) hI103
      have z83 : (σ18 55 9).toInt = (σ 55 9).toInt := (congrArg Int32.toInt (show σ18 55 9 = (σ 55 9) from (congrFun (f20 55 (of_decide_eq_true rfl)) 9)))
      refine jcallV (As := [.int (xs x16.toNatClampNeg)]) (rest := []) ⟨hx, hb, hml, hown, hts⟩ hK hP hA hS hZ (c_X12_set l D cI cL ad zz hJ σ18 τ (xs x16.toNatClampNeg) ((xs x16.toNatClampNeg).toInt) rfl I82) cw_RL_30 (jc_55 cI cL ad σ18 τ) rfl ⟨Nat.le_of_ble_eq_true rfl, Nat.le_of_ble_eq_true rfl⟩ rfl rfl rfl hl.1 rfl (Nat.le_of_ble_eq_true rfl) dL_law_341 ⟨Nat.le_of_ble_eq_true rfl, Nat.le_of_ble_eq_true rfl⟩ (fun r85 σ84 τ84 H locs h84 hP hS => ?_)
      obtain ⟨rfl, f86, f87, I88, h84⟩ := h84
      rcases h84 with h90 | h91
      · obtain ⟨q95, k92, k93, k94⟩ := h90
        exact absurd (by omega : False) id
      · obtain ⟨q98, k96, k97⟩ := h91
        have q98 := q98.symm
        subst q98
        refine lv_pop hx hb dL_law_344 rfl ?_
        refine lv_goto (tgt := 1357) hx hb dL_law_345 (of_decide_eq_true rfl) ?_
        obtain ⟨x99, ex99⟩ : ∃ y : Int32, y = x0 + 6 := ⟨_, rfl⟩
        exact by
         have tx99 : x99.toInt = x0.toInt + 6 := (jadd ex99 rfl jz_6 (by omega) (by omega)).trans (by omega)
         refine lv_iinc (v := x99) (lv' := [(3, .int x99), (2, .ref (ad 55)), (1, .ref (ad 0)), (0, .ref b)]) hx hb dL_law_1357 hl (k := 0) rfl (by rw [ex99]; rfl) (of_decide_eq_true rfl) rfl (fun ls hl => ?_)
         refine lv_goto (tgt := 18) hx hb dL_law_1360 (of_decide_eq_true rfl) ?_
         have I100 : jI2 σ84 := jI2_fr (congrFun (f86 2 (of_decide_eq_true rfl)) 0) (congrFun (f86 2 (of_decide_eq_true rfl)) 1) (congrFun (f86 2 (of_decide_eq_true rfl)) 2) (congrFun (f86 2 (of_decide_eq_true rfl)) 3) (f86 6 (of_decide_eq_true rfl)) I22
         have I101 : jI9 σ84 := jI9_fr ((congrFun (f86 9 (of_decide_eq_true rfl)) 0).trans (congrFun (f20 9 (of_decide_eq_true rfl)) 0)) ((f86 10 (of_decide_eq_true rfl)).trans (f20 10 (of_decide_eq_true rfl))) ((f86 11 (of_decide_eq_true rfl)).trans (f20 11 (of_decide_eq_true rfl))) hI9
         have I102 : jI12 σ84 := jI12_fr ((congrFun (f86 12 (of_decide_eq_true rfl)) 0).trans (congrFun (f20 12 (of_decide_eq_true rfl)) 0)) ((f86 13 (of_decide_eq_true rfl)).trans (f20 13 (of_decide_eq_true rfl))) hI12
         have I103 : jI16 σ84 := jI16_fr ((congrFun (f86 16 (of_decide_eq_true rfl)) 0).trans (congrFun (f20 16 (of_decide_eq_true rfl)) 0)) ((congrFun (f86 16 (of_decide_eq_true rfl)) 1).trans (congrFun (f20 16 (of_decide_eq_true rfl)) 1)) ((congrFun (f86 16 (of_decide_eq_true rfl)) 2).trans (congrFun (f20 16 (of_decide_eq_true rfl)) 2)) ((f86 17 (of_decide_eq_true rfl)).trans (f20 17 (of_decide_eq_true rfl))) hI16
         have I104 : jI18 σ84 := jI18_fr ((congrFun (f86 18 (of_decide_eq_true rfl)) 0).trans (congrFun (f20 18 (of_decide_eq_true rfl)) 0)) ((f86 19 (of_decide_eq_true rfl)).trans (f20 19 (of_decide_eq_true rfl))) hI18
         have I105 : jI22 σ84 := jI22_fr ((congrFun (f86 22 (of_decide_eq_true rfl)) 0).trans (congrFun (f20 22 (of_decide_eq_true rfl)) 0)) ((f86 23 (of_decide_eq_true rfl)).trans (f20 23 (of_decide_eq_true rfl))) hI22
         exact by
          have I106 : jI31 σ84 := jI31_fr ((congrFun (f86 31 (of_decide_eq_true rfl)) 8).trans (congrFun (f20 31 (of_decide_eq_true rfl)) 8)) ((f86 33 (of_decide_eq_true rfl)).trans (f20 33 (of_decide_eq_true rfl))) ((f86 36 (of_decide_eq_true rfl)).trans (f20 36 (of_decide_eq_true rfl))) hI31
          have I107 : jI38 σ84 := jI38_fr ((congrFun (f86 38 (of_decide_eq_true rfl)) 0).trans (congrFun (f20 38 (of_decide_eq_true rfl)) 0)) ((congrFun (f86 38 (of_decide_eq_true rfl)) 1).trans (congrFun (f20 38 (of_decide_eq_true rfl)) 1)) ((f86 39 (of_decide_eq_true rfl)).trans (f20 39 (of_decide_eq_true rfl))) hI38
          have I108 : jI43 σ84 := jI43_fr ((congrFun (f86 43 (of_decide_eq_true rfl)) 8).trans (congrFun (f20 43 (of_decide_eq_true rfl)) 8)) hI43
          have I109 : jI47 σ84 := jI47_fr ((congrFun (f86 47 (of_decide_eq_true rfl)) 0).trans (congrFun (f20 47 (of_decide_eq_true rfl)) 0)) ((f86 48 (of_decide_eq_true rfl)).trans (f20 48 (of_decide_eq_true rfl))) ((f86 49 (of_decide_eq_true rfl)).trans (f20 49 (of_decide_eq_true rfl))) hI47
          have I110 : jI50 σ84 := jI50_fr ((f86 52 (of_decide_eq_true rfl)).trans (f20 52 (of_decide_eq_true rfl))) hI50
          have I111 : jI101 σ84 := jI101_fr ((f87 4 (of_decide_eq_true rfl)).trans (congrFun (f20 55 (of_decide_eq_true rfl)) 4)) ((f87 5 (of_decide_eq_true rfl)).trans (congrFun (f20 55 (of_decide_eq_true rfl)) 5)) ((f86 56 (of_decide_eq_true rfl)).trans (f20 56 (of_decide_eq_true rfl))) ((f86 57 (of_decide_eq_true rfl)).trans (f20 57 (of_decide_eq_true rfl))) ((f86 58 (of_decide_eq_true rfl)).trans (f20 58 (of_decide_eq_true rfl))) ((f86 59 (of_decide_eq_true rfl)).trans (f20 59 (of_decide_eq_true rfl))) hI101
          have I112 : jI102 σ84 := jI102_fr ((f87 6 (of_decide_eq_true rfl)).trans (congrFun (f20 55 (of_decide_eq_true rfl)) 6)) ((f86 60 (of_decide_eq_true rfl)).trans (f20 60 (of_decide_eq_true rfl))) ((f86 61 (of_decide_eq_true rfl)).trans (f20 61 (of_decide_eq_true rfl))) hI102
          have I113 : jI104 σ84 := jI104_fr ((f87 10 (of_decide_eq_true rfl)).trans (congrFun (f20 55 (of_decide_eq_true rfl)) 10)) ((f87 12 (of_decide_eq_true rfl)).trans (congrFun (f20 55 (of_decide_eq_true rfl)) 12)) ((f87 13 (of_decide_eq_true rfl)).trans (congrFun (f20 55 (of_decide_eq_true rfl)) 13)) ((f86 62 (of_decide_eq_true rfl)).trans (f20 62 (of_decide_eq_true rfl))) ((f86 67 (of_decide_eq_true rfl)).trans (f20 67 (of_decide_eq_true rfl))) hI104
          have I114 : jI105 σ84 := jI105_fr ((f87 15 (of_decide_eq_true rfl)).trans (congrFun (f20 55 (of_decide_eq_true rfl)) 15)) ((f86 65 (of_decide_eq_true rfl)).trans (f20 65 (of_decide_eq_true rfl))) hI105
          have I115 : jI106 σ84 := jI106_fr ((f87 32 (of_decide_eq_true rfl)).trans (congrFun (f20 55 (of_decide_eq_true rfl)) 32)) ((f86 70 (of_decide_eq_true rfl)).trans (f20 70 (of_decide_eq_true rfl))) ((f86 71 (of_decide_eq_true rfl)).trans (f20 71 (of_decide_eq_true rfl))) ((f86 72 (of_decide_eq_true rfl)).trans (f20 72 (of_decide_eq_true rfl))) hI106
          have I116 : jI107 σ84 := jI107_fr ((f87 12 (of_decide_eq_true rfl)).trans (congrFun (f20 55 (of_decide_eq_true rfl)) 12)) ((f87 47 (of_decide_eq_true rfl)).trans (congrFun (f20 55 (of_decide_eq_true rfl)) 47)) ((f86 80 (of_decide_eq_true rfl)).trans (f20 80 (of_decide_eq_true rfl))) hI107
          have I117 : jI109 σ84 := jI109_fr ((f87 50 (of_decide_eq_true rfl)).trans (congrFun (f20 55 (of_decide_eq_true rfl)) 50)) hI109
          have I118 : jI110 σ84 := jI110_fr ((f86 86 (of_decide_eq_true rfl)).trans (f20 86 (of_decide_eq_true rfl))) ((f86 87 (of_decide_eq_true rfl)).trans (f20 87 (of_decide_eq_true rfl))) hI110
          have I119 : jI111 σ84 := jI111_fr ((f86 79 (of_decide_eq_true rfl)).trans (f20 79 (of_decide_eq_true rfl))) hI111
          have I120 : jI119 σ84 := jI119_fr ((f86 68 (of_decide_eq_true rfl)).trans (f20 68 (of_decide_eq_true rfl))) hI119
          have p121 : jKept σ84 := jKept.fr ((f86 75 (of_decide_eq_true rfl)).trans (f20 75 (of_decide_eq_true rfl))) ((f86 76 (of_decide_eq_true rfl)).trans (f20 76 (of_decide_eq_true rfl))) ((f86 77 (of_decide_eq_true rfl)).trans (f20 77 (of_decide_eq_true rfl))) hs_jKept
          have p122 : jBook σ84 := jBook.fr ((f87 47 (of_decide_eq_true rfl)).trans (congrFun (f20 55 (of_decide_eq_true rfl)) 47)) ((f87 10 (of_decide_eq_true rfl)).trans (congrFun (f20 55 (of_decide_eq_true rfl)) 10)) ((f86 81 (of_decide_eq_true rfl)).trans (f20 81 (of_decide_eq_true rfl))) hs_jBook
          have z123 : (σ84 9 0).toInt = (σ 9 0).toInt := (congrArg Int32.toInt (show σ84 9 0 = (σ 9 0) from ((congrFun (f86 9 (of_decide_eq_true rfl)) 0).trans (congrFun (f20 9 (of_decide_eq_true rfl)) 0))))
          have z124 : (σ84 55 15).toInt = (σ 55 15).toInt := (congrArg Int32.toInt (show σ84 55 15 = (σ 55 15) from ((f87 15 (of_decide_eq_true rfl)).trans (congrFun (f20 55 (of_decide_eq_true rfl)) 15))))
          have z125 : (σ84 16 0).toInt = (σ 16 0).toInt := (congrArg Int32.toInt (show σ84 16 0 = (σ 16 0) from ((congrFun (f86 16 (of_decide_eq_true rfl)) 0).trans (congrFun (f20 16 (of_decide_eq_true rfl)) 0))))
          have z126 : (σ84 55 10).toInt = (σ 55 10).toInt := (congrArg Int32.toInt (show σ84 55 10 = (σ 55 10) from ((f87 10 (of_decide_eq_true rfl)).trans (congrFun (f20 55 (of_decide_eq_true rfl)) 10))))
          have z127 : (σ84 16 1).toInt = (σ 16 1).toInt := (congrArg Int32.toInt (show σ84 16 1 = (σ 16 1) from ((congrFun (f86 16 (of_decide_eq_true rfl)) 1).trans (congrFun (f20 16 (of_decide_eq_true rfl)) 1))))
          have z128 : (σ84 55 12).toInt = (σ 55 12).toInt := (congrArg Int32.toInt (show σ84 55 12 = (σ 55 12) from ((f87 12 (of_decide_eq_true rfl)).trans (congrFun (f20 55 (of_decide_eq_true rfl)) 12))))
          have z129 : (σ84 16 2).toInt = (σ 16 2).toInt := (congrArg Int32.toInt (show σ84 16 2 = (σ 16 2) from ((congrFun (f86 16 (of_decide_eq_true rfl)) 2).trans (congrFun (f20 16 (of_decide_eq_true rfl)) 2))))
          have z130 : (σ84 55 13).toInt = (σ 55 13).toInt := (congrArg Int32.toInt (show σ84 55 13 = (σ 55 13) from ((f87 13 (of_decide_eq_true rfl)).trans (congrFun (f20 55 (of_decide_eq_true rfl)) 13))))
          exact by exact ih x99 σ84 τ _ _ ls (by have h9 := tx99; omega) ⟨I100, I101, I102, I103, I104, I105, I106, I107, I108, I109, I110, I111, I112, I88, I113, I114, I115, I116, I117, I118, I119, I120, p121, p122, (by omega), (by omega), (by omega), (by omega), (show jTp (σ84 10) (σ84 63) (σ84 55 15).toInt by rw [show σ84 10 = σ 10 from ((f86 10 (of_decide_eq_true rfl)).trans (f20 10 (of_decide_eq_true rfl))), show σ84 63 = σ 63 from ((f86 63 (of_decide_eq_true rfl)).trans (f20 63 (of_decide_eq_true rfl)))]; exact hr0.le (by omega)), (show jSo (σ84 17) (σ84 62) (σ84 16 0).toInt by rw [show σ84 17 = σ 17 from ((f86 17 (of_decide_eq_true rfl)).trans (f20 17 (of_decide_eq_true rfl))), show σ84 62 = σ 62 from ((f86 62 (of_decide_eq_true rfl)).trans (f20 62 (of_decide_eq_true rfl))), show (σ84 16 0).toInt = (σ 16 0).toInt from by omega]; exact hr1)⟩ hP hS (lv_sub hl [0, 1, 2, 3] rfl)
set_option maxHeartbeats 4000000 in
set_option maxRecDepth 100000 in
theorem law_case_4 {p : Program} {e : Env} {s : State} {m : MethodId} {below : List Frame} {meth : Method} {c : Code} (l : Launch) {b L : Nat} {xs : Nat → Int32} {D : va_G} {cI cL : ClassId} {ad zz : Nat → Nat} (C0 : lw_At p s m meth c b L xs) (hJ : jD ad) (hA : ∀ q, jA ad q → s.heap.size ≤ q) (hK : jK D cI cL s) (hZ : jZ zz (fun q : Nat => s.heap.size ≤ q) s s.heap) {x0 : Int32} (hx0 : 0 ≤ x0.toInt) (hxL : x0.toInt + 6 ≤ (L : Int)) (hL : L ≤ 384) {σ : Nat → Nat → Int32} {τ : Nat → Nat → Int64} {H : Heap} {locs : List Loc} (hS : va_S (fun q : Nat => s.heap.size ≤ q) s.heap H locs) {ls : Array Slot} (hAll : jAll σ τ) (hP : jH D cI cL ad σ τ H) (hl : lv_has ls 4 [(3, .int x0), (2, .ref (ad 55)), (1, .ref (ad 0)), (0, .ref b)]) (ih : ∀ (x1 : Int32) (σ : Nat → Nat → Int32) (τ : Nat → Nat → Int64) (H : Heap) (locs : List Loc) (ls : Array Slot), x1.toInt = x0.toInt + 6 → jAll σ τ → jH D cI cL ad σ τ H → va_S (fun q : Nat => s.heap.size ≤ q) s.heap H locs → lv_has ls 4 [(3, .int x1), (2, .ref (ad 55)), (1, .ref (ad 0)), (0, .ref b)] → W p l e room_1 s m #[Value.ref b] below meth c H locs 90 348600 (lw_Z below #[Value.ref b] s) (F0 m 18 ls [])) : W p l e room_1 s m #[Value.ref b] below meth c H locs 90 348600 (lw_Z below #[Value.ref b] s) (F0 m 348 ls []) := by
  obtain ⟨hx, hb, hr, hml, hown, hts0, hX, hbl, hlocks, hgv⟩ := C0
  have hts : ∀ w ∈ wsL_law, w.before #[Value.ref b] s = true := fun w h => hts0 w (wsL_law_in w h)
  have hbA : ¬ (fun q : Nat => s.heap.size ≤ q) b := Nat.not_le.mpr hbl
  have hown : s.vm.findClass RL = some m.cls := hown
  obtain ⟨hI2, hI9, hI12, hI16, hI18, hI22, hI31, hI38, hI43, hI47, hI50, hI101, hI102, hI103, hI104, hI105, hI106, hI107, hI109, hI110, hI111, hI119, hs_jKept, hs_jBook, ht0, ht1, ht2, ht3, hr0, hr1⟩ := hAll
  have hL9 : (L : Int) ≤ 384 := by omega
  obtain ⟨i1, w2, w3⟩ : (0 ≤ (σ 9 0).toInt ∧ (σ 9 0).toInt ≤ 80) ∧ (∀ k : Nat, k < 80 → 0 ≤ (σ 10 k).toInt ∧ (σ 10 k).toInt ≤ 255) ∧ (∀ k : Nat, k < 8 → 0 ≤ (σ 11 k).toInt ∧ (σ 11 k).toInt ≤ 3) := id hI9
  obtain ⟨i4, i5, i6, w7⟩ : (1 ≤ (σ 16 0).toInt ∧ (σ 16 0).toInt ≤ 8) ∧ (1 ≤ (σ 16 1).toInt ∧ (σ 16 1).toInt ≤ 12) ∧ (0 ≤ (σ 16 2).toInt ∧ (σ 16 2).toInt ≤ 999) ∧ (∀ k : Nat, k < 8 → 0 ≤ (σ 17 k).toInt ∧ (σ 17 k).toInt ≤ 3) := id hI16
  obtain ⟨i8, i9, i10, w11, w12⟩ : (1 ≤ (σ 55 10).toInt ∧ (σ 55 10).toInt ≤ 8) ∧ (1 ≤ (σ 55 12).toInt ∧ (σ 55 12).toInt ≤ 12) ∧ (0 ≤ (σ 55 13).toInt ∧ (σ 55 13).toInt ≤ 999) ∧ (∀ k : Nat, k < 8 → 0 ≤ (σ 62 k).toInt ∧ (σ 62 k).toInt ≤ 3) ∧ (∀ k : Nat, k < 8 → 0 ≤ (σ 67 k).toInt ∧ (σ 67 k).toInt ≤ 3) := id hI104
  obtain ⟨i13, w14⟩ : (0 ≤ (σ 55 15).toInt ∧ (σ 55 15).toInt ≤ 80) ∧ (∀ k : Nat, k < 2 → (-1) ≤ (σ 65 k).toInt ∧ (σ 65 k).toInt ≤ 80) := id hI105
  refine lv_aload_n hx hb dL_law_348 rfl (lv_at hl 2 rfl) ?_
  refine lv_aload_n hx hb dL_law_349 rfl (lv_at hl 3 rfl) ?_
  refine lv_iload_n hx hb dL_law_350 rfl (lv_at hl 0 rfl) ?_
  refine lv_iconst (v := 1) hx hb dL_law_351 (of_decide_eq_true rfl) ?_
  have g15 := jrg (rfl : x0.toInt = x0.toInt)
  refine lv_iadd hx hb dL_law_352 ?_
  refine lv_topi (fun x16 ex16 => ?_)
  exact by
   have tx16 : x16.toInt = x0.toInt + 1 := (jadd ex16 rfl jz_1 (by omega) (by omega)).trans (by omega)
   refine va_sld hx hb hX hbl hbA hS (jin tx16 (by omega) (by omega)) dL_law_353 ?_
   have g17 := jrg (rfl : (xs x16.toNatClampNeg).toInt = (xs x16.toNatClampNeg).toInt)
   refine lv_aload_n hx hb dL_law_354 rfl (lv_at hl 3 rfl) ?_
   refine lv_iload_n hx hb dL_law_355 rfl (lv_at hl 0 rfl) ?_
   refine lv_iconst (v := 2) hx hb dL_law_356 (of_decide_eq_true rfl) ?_
   refine lv_iadd hx hb dL_law_357 ?_
   refine lv_topi (fun x18 ex18 => ?_)
   have tx18 : x18.toInt = x0.toInt + 2 := (jadd ex18 rfl jz_2 (by omega) (by omega)).trans (by omega)
   exact by
    refine va_sld hx hb hX hbl hbA hS (jin tx18 (by omega) (by omega)) dL_law_358 ?_
    have g19 := jrg (rfl : (xs x18.toNatClampNeg).toInt = (xs x18.toNatClampNeg).toInt)
    refine jcallV (As := [.int (xs x16.toNatClampNeg), .int (xs x18.toNatClampNeg)]) (rest := []) ⟨hx, hb, hml, hown, hts⟩ hK hP hA hS hZ (c_X11_feed l D cI cL ad zz hJ σ τ (xs x16.toNatClampNeg) ((xs x16.toNatClampNeg).toInt) rfl (xs x18.toNatClampNeg) ((xs x18.toNatClampNeg).toInt) rfl hI9) cw_RL_31 (jc_0 cI cL ad σ τ) rfl ⟨Nat.le_of_ble_eq_true rfl, Nat.le_of_ble_eq_true rfl⟩ rfl rfl rfl hl.1 rfl (Nat.le_of_ble_eq_true rfl) dL_law_359 ⟨Nat.le_of_ble_eq_true rfl, Nat.le_of_ble_eq_true rfl⟩ (fun r21 σ20 τ20 H locs h20 hP hS => ?_)
    obtain ⟨rfl, f22, f23, I24, h20⟩ := h20
    obtain ⟨i26, w27, w28⟩ : (0 ≤ (σ20 9 0).toInt ∧ (σ20 9 0).toInt ≤ 80) ∧ (∀ k : Nat, k < 80 → 0 ≤ (σ20 10 k).toInt ∧ (σ20 10 k).toInt ≤ 255) ∧ (∀ k : Nat, k < 8 → 0 ≤ (σ20 11 k).toInt ∧ (σ20 11 k).toInt ≤ 3) := id I24
    rcases h20 with h29 | h30 | h31
    · obtain ⟨q35, k32, k33, k34⟩ := h29
      have q35 := q35.symm
      subst q35
      refine lv_pop hx hb dL_law_362 rfl ?_
      refine lv_aload_n hx hb dL_law_363 rfl (lv_at hl 1 rfl) ?_
      refine lv_aload_n hx hb dL_law_364 rfl (lv_at hl 3 rfl) ?_
      refine lv_iload_n hx hb dL_law_365 rfl (lv_at hl 0 rfl) ?_
      refine lv_iconst (v := 1) hx hb dL_law_366 (of_decide_eq_true rfl) ?_
      refine lv_iadd hx hb dL_law_367 ?_
      refine jtopr ex16.symm ?_
      exact by
       refine va_sld hx hb hX hbl hbA hS (jin tx16 (by omega) (by omega)) dL_law_368 ?_
       refine lv_aload_n hx hb dL_law_369 rfl (lv_at hl 3 rfl) ?_
       refine lv_iload_n hx hb dL_law_370 rfl (lv_at hl 0 rfl) ?_
       refine lv_iconst (v := 2) hx hb dL_law_371 (of_decide_eq_true rfl) ?_
       refine lv_iadd hx hb dL_law_372 ?_
       refine jtopr ex18.symm ?_
       refine va_sld hx hb hX hbl hbA hS (jin tx18 (by omega) (by omega)) dL_law_373 ?_
       have I36 : jI105 σ20 := jI105_fr (congrFun (f22 55 (of_decide_eq_true rfl)) 15) (f22 65 (of_decide_eq_true rfl)) hI105
       have z37 : (σ20 55 15).toInt = (σ 55 15).toInt := (congrArg Int32.toInt (show σ20 55 15 = (σ 55 15) from (congrFun (f22 55 (of_decide_eq_true rfl)) 15)))
       exact by
        refine jcallV (As := [.int (xs x16.toNatClampNeg), .int (xs x18.toNatClampNeg)]) (rest := []) ⟨hx, hb, hml, hown, hts⟩ hK hP hA hS hZ (c_X12_feed l D cI cL ad zz hJ σ20 τ (xs x16.toNatClampNeg) ((xs x16.toNatClampNeg).toInt) rfl (xs x18.toNatClampNeg) ((xs x18.toNatClampNeg).toInt) rfl I36) cw_RL_35 (jc_55 cI cL ad σ20 τ) rfl ⟨Nat.le_of_ble_eq_true rfl, Nat.le_of_ble_eq_true rfl⟩ rfl rfl rfl hl.1 rfl (Nat.le_of_ble_eq_true rfl) dL_law_374 ⟨Nat.le_of_ble_eq_true rfl, Nat.le_of_ble_eq_true rfl⟩ (fun r39 σ38 τ38 H locs h38 hP hS => ?_)
        obtain ⟨rfl, f40, f41, I42, h38⟩ := h38
        obtain ⟨i44, w45⟩ : (0 ≤ (σ38 55 15).toInt ∧ (σ38 55 15).toInt ≤ 80) ∧ (∀ k : Nat, k < 2 → (-1) ≤ (σ38 65 k).toInt ∧ (σ38 65 k).toInt ≤ 80) := id I42
        rcases h38 with h46 | h47 | h48
        · obtain ⟨q52, k49, k50, k51⟩ := h46
          have q52 := q52.symm
          subst q52
          refine lv_pop hx hb dL_law_377 rfl ?_
          refine lv_goto (tgt := 1357) hx hb dL_law_378 (of_decide_eq_true rfl) ?_
          obtain ⟨x53, ex53⟩ : ∃ y : Int32, y = x0 + 6 := ⟨_, rfl⟩
          exact by
           have tx53 : x53.toInt = x0.toInt + 6 := (jadd ex53 rfl jz_6 (by omega) (by omega)).trans (by omega)
           refine lv_iinc (v := x53) (lv' := [(3, .int x53), (2, .ref (ad 55)), (1, .ref (ad 0)), (0, .ref b)]) hx hb dL_law_1357 hl (k := 0) rfl (by rw [ex53]; rfl) (of_decide_eq_true rfl) rfl (fun ls hl => ?_)
           refine lv_goto (tgt := 18) hx hb dL_law_1360 (of_decide_eq_true rfl) ?_
           have I54 : jI2 σ38 := jI2_fr ((congrFun (f40 2 (of_decide_eq_true rfl)) 0).trans (congrFun (f22 2 (of_decide_eq_true rfl)) 0)) ((congrFun (f40 2 (of_decide_eq_true rfl)) 1).trans (congrFun (f22 2 (of_decide_eq_true rfl)) 1)) ((congrFun (f40 2 (of_decide_eq_true rfl)) 2).trans (congrFun (f22 2 (of_decide_eq_true rfl)) 2)) ((congrFun (f40 2 (of_decide_eq_true rfl)) 3).trans (congrFun (f22 2 (of_decide_eq_true rfl)) 3)) ((f40 6 (of_decide_eq_true rfl)).trans (f22 6 (of_decide_eq_true rfl))) hI2
           have I55 : jI9 σ38 := jI9_fr (congrFun (f40 9 (of_decide_eq_true rfl)) 0) (f40 10 (of_decide_eq_true rfl)) (f40 11 (of_decide_eq_true rfl)) I24
           have I56 : jI12 σ38 := jI12_fr ((congrFun (f40 12 (of_decide_eq_true rfl)) 0).trans (congrFun (f22 12 (of_decide_eq_true rfl)) 0)) ((f40 13 (of_decide_eq_true rfl)).trans (f22 13 (of_decide_eq_true rfl))) hI12
           have I57 : jI16 σ38 := jI16_fr ((congrFun (f40 16 (of_decide_eq_true rfl)) 0).trans (congrFun (f22 16 (of_decide_eq_true rfl)) 0)) ((congrFun (f40 16 (of_decide_eq_true rfl)) 1).trans (congrFun (f22 16 (of_decide_eq_true rfl)) 1)) ((congrFun (f40 16 (of_decide_eq_true rfl)) 2).trans (congrFun (f22 16 (of_decide_eq_true rfl)) 2)) ((f40 17 (of_decide_eq_true rfl)).trans (f22 17 (of_decide_eq_true rfl))) hI16
           have I58 : jI18 σ38 := jI18_fr ((congrFun (f40 18 (of_decide_eq_true rfl)) 0).trans (congrFun (f22 18 (of_decide_eq_true rfl)) 0)) ((f40 19 (of_decide_eq_true rfl)).trans (f22 19 (of_decide_eq_true rfl))) hI18
           have I59 : jI22 σ38 := jI22_fr ((congrFun (f40 22 (of_decide_eq_true rfl)) 0).trans (congrFun (f22 22 (of_decide_eq_true rfl)) 0)) ((f40 23 (of_decide_eq_true rfl)).trans (f22 23 (of_decide_eq_true rfl))) hI22
           exact by
            have I60 : jI31 σ38 := jI31_fr ((congrFun (f40 31 (of_decide_eq_true rfl)) 8).trans (congrFun (f22 31 (of_decide_eq_true rfl)) 8)) ((f40 33 (of_decide_eq_true rfl)).trans (f22 33 (of_decide_eq_true rfl))) ((f40 36 (of_decide_eq_true rfl)).trans (f22 36 (of_decide_eq_true rfl))) hI31
            have I61 : jI38 σ38 := jI38_fr ((congrFun (f40 38 (of_decide_eq_true rfl)) 0).trans (congrFun (f22 38 (of_decide_eq_true rfl)) 0)) ((congrFun (f40 38 (of_decide_eq_true rfl)) 1).trans (congrFun (f22 38 (of_decide_eq_true rfl)) 1)) ((f40 39 (of_decide_eq_true rfl)).trans (f22 39 (of_decide_eq_true rfl))) hI38
            have I62 : jI43 σ38 := jI43_fr ((congrFun (f40 43 (of_decide_eq_true rfl)) 8).trans (congrFun (f22 43 (of_decide_eq_true rfl)) 8)) hI43
            have I63 : jI47 σ38 := jI47_fr ((congrFun (f40 47 (of_decide_eq_true rfl)) 0).trans (congrFun (f22 47 (of_decide_eq_true rfl)) 0)) ((f40 48 (of_decide_eq_true rfl)).trans (f22 48 (of_decide_eq_true rfl))) ((f40 49 (of_decide_eq_true rfl)).trans (f22 49 (of_decide_eq_true rfl))) hI47
            have I64 : jI50 σ38 := jI50_fr ((f40 52 (of_decide_eq_true rfl)).trans (f22 52 (of_decide_eq_true rfl))) hI50
            have I65 : jI101 σ38 := jI101_fr ((f41 4 (of_decide_eq_true rfl)).trans (congrFun (f22 55 (of_decide_eq_true rfl)) 4)) ((f41 5 (of_decide_eq_true rfl)).trans (congrFun (f22 55 (of_decide_eq_true rfl)) 5)) ((f40 56 (of_decide_eq_true rfl)).trans (f22 56 (of_decide_eq_true rfl))) ((f40 57 (of_decide_eq_true rfl)).trans (f22 57 (of_decide_eq_true rfl))) ((f40 58 (of_decide_eq_true rfl)).trans (f22 58 (of_decide_eq_true rfl))) ((f40 59 (of_decide_eq_true rfl)).trans (f22 59 (of_decide_eq_true rfl))) hI101
            have I66 : jI102 σ38 := jI102_fr ((f41 6 (of_decide_eq_true rfl)).trans (congrFun (f22 55 (of_decide_eq_true rfl)) 6)) ((f40 60 (of_decide_eq_true rfl)).trans (f22 60 (of_decide_eq_true rfl))) ((f40 61 (of_decide_eq_true rfl)).trans (f22 61 (of_decide_eq_true rfl))) hI102
            have I67 : jI103 σ38 := jI103_fr ((f41 9 (of_decide_eq_true rfl)).trans (congrFun (f22 55 (of_decide_eq_true rfl)) 9)) hI103
            have I68 : jI104 σ38 := jI104_fr ((f41 10 (of_decide_eq_true rfl)).trans (congrFun (f22 55 (of_decide_eq_true rfl)) 10)) ((f41 12 (of_decide_eq_true rfl)).trans (congrFun (f22 55 (of_decide_eq_true rfl)) 12)) ((f41 13 (of_decide_eq_true rfl)).trans (congrFun (f22 55 (of_decide_eq_true rfl)) 13)) ((f40 62 (of_decide_eq_true rfl)).trans (f22 62 (of_decide_eq_true rfl))) ((f40 67 (of_decide_eq_true rfl)).trans (f22 67 (of_decide_eq_true rfl))) hI104
            have I69 : jI106 σ38 := jI106_fr ((f41 32 (of_decide_eq_true rfl)).trans (congrFun (f22 55 (of_decide_eq_true rfl)) 32)) ((f40 70 (of_decide_eq_true rfl)).trans (f22 70 (of_decide_eq_true rfl))) ((f40 71 (of_decide_eq_true rfl)).trans (f22 71 (of_decide_eq_true rfl))) ((f40 72 (of_decide_eq_true rfl)).trans (f22 72 (of_decide_eq_true rfl))) hI106
            have I70 : jI107 σ38 := jI107_fr ((f41 12 (of_decide_eq_true rfl)).trans (congrFun (f22 55 (of_decide_eq_true rfl)) 12)) ((f41 47 (of_decide_eq_true rfl)).trans (congrFun (f22 55 (of_decide_eq_true rfl)) 47)) ((f40 80 (of_decide_eq_true rfl)).trans (f22 80 (of_decide_eq_true rfl))) hI107
            have I71 : jI109 σ38 := jI109_fr ((f41 50 (of_decide_eq_true rfl)).trans (congrFun (f22 55 (of_decide_eq_true rfl)) 50)) hI109
            have I72 : jI110 σ38 := jI110_fr ((f40 86 (of_decide_eq_true rfl)).trans (f22 86 (of_decide_eq_true rfl))) ((f40 87 (of_decide_eq_true rfl)).trans (f22 87 (of_decide_eq_true rfl))) hI110
            have I73 : jI111 σ38 := jI111_fr ((f40 79 (of_decide_eq_true rfl)).trans (f22 79 (of_decide_eq_true rfl))) hI111
            have I74 : jI119 σ38 := jI119_fr ((f40 68 (of_decide_eq_true rfl)).trans (f22 68 (of_decide_eq_true rfl))) hI119
            have p75 : jKept σ38 := jKept.fr ((f40 75 (of_decide_eq_true rfl)).trans (f22 75 (of_decide_eq_true rfl))) ((f40 76 (of_decide_eq_true rfl)).trans (f22 76 (of_decide_eq_true rfl))) ((f40 77 (of_decide_eq_true rfl)).trans (f22 77 (of_decide_eq_true rfl))) hs_jKept
            have p76 : jBook σ38 := jBook.fr ((f41 47 (of_decide_eq_true rfl)).trans (congrFun (f22 55 (of_decide_eq_true rfl)) 47)) ((f41 10 (of_decide_eq_true rfl)).trans (congrFun (f22 55 (of_decide_eq_true rfl)) 10)) ((f40 81 (of_decide_eq_true rfl)).trans (f22 81 (of_decide_eq_true rfl))) hs_jBook
            have z77 : (σ38 9 0).toInt = (σ20 9 0).toInt := (congrArg Int32.toInt (show σ38 9 0 = (σ20 9 0) from (congrFun (f40 9 (of_decide_eq_true rfl)) 0)))
            have z78 : (σ38 16 0).toInt = (σ 16 0).toInt := (congrArg Int32.toInt (show σ38 16 0 = (σ 16 0) from ((congrFun (f40 16 (of_decide_eq_true rfl)) 0).trans (congrFun (f22 16 (of_decide_eq_true rfl)) 0))))
            have z79 : (σ38 55 10).toInt = (σ 55 10).toInt := (congrArg Int32.toInt (show σ38 55 10 = (σ 55 10) from ((f41 10 (of_decide_eq_true rfl)).trans (congrFun (f22 55 (of_decide_eq_true rfl)) 10))))
            have z80 : (σ38 16 1).toInt = (σ 16 1).toInt := (congrArg Int32.toInt (show σ38 16 1 = (σ 16 1) from ((congrFun (f40 16 (of_decide_eq_true rfl)) 1).trans (congrFun (f22 16 (of_decide_eq_true rfl)) 1))))
            have z81 : (σ38 55 12).toInt = (σ 55 12).toInt := (congrArg Int32.toInt (show σ38 55 12 = (σ 55 12) from ((f41 12 (of_decide_eq_true rfl)).trans (congrFun (f22 55 (of_decide_eq_true rfl)) 12))))
            have z82 : (σ38 16 2).toInt = (σ 16 2).toInt := (congrArg Int32.toInt (show σ38 16 2 = (σ 16 2) from ((congrFun (f40 16 (of_decide_eq_true rfl)) 2).trans (congrFun (f22 16 (of_decide_eq_true rfl)) 2))))
            have z83 : (σ38 55 13).toInt = (σ 55 13).toInt := (congrArg Int32.toInt (show σ38 55 13 = (σ 55 13) from ((f41 13 (of_decide_eq_true rfl)).trans (congrFun (f22 55 (of_decide_eq_true rfl)) 13))))
            exact by exact ih x53 σ38 τ _ _ ls (by have h9 := tx53; omega) ⟨I54, I55, I56, I57, I58, I59, I60, I61, I62, I63, I64, I65, I66, I67, I68, I42, I69, I70, I71, I72, I73, I74, p75, p76, (by omega), (by omega), (by omega), (by omega), (show jTp (σ38 10) (σ38 63) (σ38 55 15).toInt by rw [show σ38 10 = σ 10 from ((f40 10 (of_decide_eq_true rfl)).trans k34), show σ38 63 = σ 63 from (k51.trans (f22 63 (of_decide_eq_true rfl)))]; exact hr0.le (by omega)), (show jSo (σ38 17) (σ38 62) (σ38 16 0).toInt by rw [show σ38 17 = σ 17 from ((f40 17 (of_decide_eq_true rfl)).trans (f22 17 (of_decide_eq_true rfl))), show σ38 62 = σ 62 from ((f40 62 (of_decide_eq_true rfl)).trans (f22 62 (of_decide_eq_true rfl))), show (σ38 16 0).toInt = (σ 16 0).toInt from by omega]; exact hr1)⟩ hP hS (lv_sub hl [0, 1, 2, 3] rfl)
        · obtain ⟨q88, k84, k85, k86, k87⟩ := h47
          exact absurd (by omega : False) id
        · obtain ⟨q94, k89, k90, k91, k92, k93⟩ := h48
          exact absurd (by omega : False) id
    · obtain ⟨q99, k95, k96, k97, k98⟩ := h30
      have q99 := q99.symm
      subst q99
      refine lv_pop hx hb dL_law_362 rfl ?_
      refine lv_aload_n hx hb dL_law_363 rfl (lv_at hl 1 rfl) ?_
      refine lv_aload_n hx hb dL_law_364 rfl (lv_at hl 3 rfl) ?_
      refine lv_iload_n hx hb dL_law_365 rfl (lv_at hl 0 rfl) ?_
      refine lv_iconst (v := 1) hx hb dL_law_366 (of_decide_eq_true rfl) ?_
      refine lv_iadd hx hb dL_law_367 ?_
      refine jtopr ex16.symm ?_
      exact by
       refine va_sld hx hb hX hbl hbA hS (jin tx16 (by omega) (by omega)) dL_law_368 ?_
       refine lv_aload_n hx hb dL_law_369 rfl (lv_at hl 3 rfl) ?_
       refine lv_iload_n hx hb dL_law_370 rfl (lv_at hl 0 rfl) ?_
       refine lv_iconst (v := 2) hx hb dL_law_371 (of_decide_eq_true rfl) ?_
       refine lv_iadd hx hb dL_law_372 ?_
       refine jtopr ex18.symm ?_
       refine va_sld hx hb hX hbl hbA hS (jin tx18 (by omega) (by omega)) dL_law_373 ?_
       have I100 : jI105 σ20 := jI105_fr (congrFun (f22 55 (of_decide_eq_true rfl)) 15) (f22 65 (of_decide_eq_true rfl)) hI105
       have z101 : (σ20 55 15).toInt = (σ 55 15).toInt := (congrArg Int32.toInt (show σ20 55 15 = (σ 55 15) from (congrFun (f22 55 (of_decide_eq_true rfl)) 15)))
       exact by
        refine jcallV (As := [.int (xs x16.toNatClampNeg), .int (xs x18.toNatClampNeg)]) (rest := []) ⟨hx, hb, hml, hown, hts⟩ hK hP hA hS hZ (c_X12_feed l D cI cL ad zz hJ σ20 τ (xs x16.toNatClampNeg) ((xs x16.toNatClampNeg).toInt) rfl (xs x18.toNatClampNeg) ((xs x18.toNatClampNeg).toInt) rfl I100) cw_RL_35 (jc_55 cI cL ad σ20 τ) rfl ⟨Nat.le_of_ble_eq_true rfl, Nat.le_of_ble_eq_true rfl⟩ rfl rfl rfl hl.1 rfl (Nat.le_of_ble_eq_true rfl) dL_law_374 ⟨Nat.le_of_ble_eq_true rfl, Nat.le_of_ble_eq_true rfl⟩ (fun r103 σ102 τ102 H locs h102 hP hS => ?_)
        obtain ⟨rfl, f104, f105, I106, h102⟩ := h102
        obtain ⟨i108, w109⟩ : (0 ≤ (σ102 55 15).toInt ∧ (σ102 55 15).toInt ≤ 80) ∧ (∀ k : Nat, k < 2 → (-1) ≤ (σ102 65 k).toInt ∧ (σ102 65 k).toInt ≤ 80) := id I106
        rcases h102 with h110 | h111 | h112
        · obtain ⟨q116, k113, k114, k115⟩ := h110
          exact absurd (by omega : False) id
        · obtain ⟨q121, k117, k118, k119, k120⟩ := h111
          have q121 := q121.symm
          subst q121
          refine lv_pop hx hb dL_law_377 rfl ?_
          refine lv_goto (tgt := 1357) hx hb dL_law_378 (of_decide_eq_true rfl) ?_
          obtain ⟨x122, ex122⟩ : ∃ y : Int32, y = x0 + 6 := ⟨_, rfl⟩
          exact by
           have tx122 : x122.toInt = x0.toInt + 6 := (jadd ex122 rfl jz_6 (by omega) (by omega)).trans (by omega)
           refine lv_iinc (v := x122) (lv' := [(3, .int x122), (2, .ref (ad 55)), (1, .ref (ad 0)), (0, .ref b)]) hx hb dL_law_1357 hl (k := 0) rfl (by rw [ex122]; rfl) (of_decide_eq_true rfl) rfl (fun ls hl => ?_)
           refine lv_goto (tgt := 18) hx hb dL_law_1360 (of_decide_eq_true rfl) ?_
           have I123 : jI2 σ102 := jI2_fr ((congrFun (f104 2 (of_decide_eq_true rfl)) 0).trans (congrFun (f22 2 (of_decide_eq_true rfl)) 0)) ((congrFun (f104 2 (of_decide_eq_true rfl)) 1).trans (congrFun (f22 2 (of_decide_eq_true rfl)) 1)) ((congrFun (f104 2 (of_decide_eq_true rfl)) 2).trans (congrFun (f22 2 (of_decide_eq_true rfl)) 2)) ((congrFun (f104 2 (of_decide_eq_true rfl)) 3).trans (congrFun (f22 2 (of_decide_eq_true rfl)) 3)) ((f104 6 (of_decide_eq_true rfl)).trans (f22 6 (of_decide_eq_true rfl))) hI2
           have I124 : jI9 σ102 := jI9_fr (congrFun (f104 9 (of_decide_eq_true rfl)) 0) (f104 10 (of_decide_eq_true rfl)) (f104 11 (of_decide_eq_true rfl)) I24
           have I125 : jI12 σ102 := jI12_fr ((congrFun (f104 12 (of_decide_eq_true rfl)) 0).trans (congrFun (f22 12 (of_decide_eq_true rfl)) 0)) ((f104 13 (of_decide_eq_true rfl)).trans (f22 13 (of_decide_eq_true rfl))) hI12
           have I126 : jI16 σ102 := jI16_fr ((congrFun (f104 16 (of_decide_eq_true rfl)) 0).trans (congrFun (f22 16 (of_decide_eq_true rfl)) 0)) ((congrFun (f104 16 (of_decide_eq_true rfl)) 1).trans (congrFun (f22 16 (of_decide_eq_true rfl)) 1)) ((congrFun (f104 16 (of_decide_eq_true rfl)) 2).trans (congrFun (f22 16 (of_decide_eq_true rfl)) 2)) ((f104 17 (of_decide_eq_true rfl)).trans (f22 17 (of_decide_eq_true rfl))) hI16
           have I127 : jI18 σ102 := jI18_fr ((congrFun (f104 18 (of_decide_eq_true rfl)) 0).trans (congrFun (f22 18 (of_decide_eq_true rfl)) 0)) ((f104 19 (of_decide_eq_true rfl)).trans (f22 19 (of_decide_eq_true rfl))) hI18
           have I128 : jI22 σ102 := jI22_fr ((congrFun (f104 22 (of_decide_eq_true rfl)) 0).trans (congrFun (f22 22 (of_decide_eq_true rfl)) 0)) ((f104 23 (of_decide_eq_true rfl)).trans (f22 23 (of_decide_eq_true rfl))) hI22
           exact by
            have I129 : jI31 σ102 := jI31_fr ((congrFun (f104 31 (of_decide_eq_true rfl)) 8).trans (congrFun (f22 31 (of_decide_eq_true rfl)) 8)) ((f104 33 (of_decide_eq_true rfl)).trans (f22 33 (of_decide_eq_true rfl))) ((f104 36 (of_decide_eq_true rfl)).trans (f22 36 (of_decide_eq_true rfl))) hI31
            have I130 : jI38 σ102 := jI38_fr ((congrFun (f104 38 (of_decide_eq_true rfl)) 0).trans (congrFun (f22 38 (of_decide_eq_true rfl)) 0)) ((congrFun (f104 38 (of_decide_eq_true rfl)) 1).trans (congrFun (f22 38 (of_decide_eq_true rfl)) 1)) ((f104 39 (of_decide_eq_true rfl)).trans (f22 39 (of_decide_eq_true rfl))) hI38
            have I131 : jI43 σ102 := jI43_fr ((congrFun (f104 43 (of_decide_eq_true rfl)) 8).trans (congrFun (f22 43 (of_decide_eq_true rfl)) 8)) hI43
            have I132 : jI47 σ102 := jI47_fr ((congrFun (f104 47 (of_decide_eq_true rfl)) 0).trans (congrFun (f22 47 (of_decide_eq_true rfl)) 0)) ((f104 48 (of_decide_eq_true rfl)).trans (f22 48 (of_decide_eq_true rfl))) ((f104 49 (of_decide_eq_true rfl)).trans (f22 49 (of_decide_eq_true rfl))) hI47
            have I133 : jI50 σ102 := jI50_fr ((f104 52 (of_decide_eq_true rfl)).trans (f22 52 (of_decide_eq_true rfl))) hI50
            have I134 : jI101 σ102 := jI101_fr ((f105 4 (of_decide_eq_true rfl)).trans (congrFun (f22 55 (of_decide_eq_true rfl)) 4)) ((f105 5 (of_decide_eq_true rfl)).trans (congrFun (f22 55 (of_decide_eq_true rfl)) 5)) ((f104 56 (of_decide_eq_true rfl)).trans (f22 56 (of_decide_eq_true rfl))) ((f104 57 (of_decide_eq_true rfl)).trans (f22 57 (of_decide_eq_true rfl))) ((f104 58 (of_decide_eq_true rfl)).trans (f22 58 (of_decide_eq_true rfl))) ((f104 59 (of_decide_eq_true rfl)).trans (f22 59 (of_decide_eq_true rfl))) hI101
            have I135 : jI102 σ102 := jI102_fr ((f105 6 (of_decide_eq_true rfl)).trans (congrFun (f22 55 (of_decide_eq_true rfl)) 6)) ((f104 60 (of_decide_eq_true rfl)).trans (f22 60 (of_decide_eq_true rfl))) ((f104 61 (of_decide_eq_true rfl)).trans (f22 61 (of_decide_eq_true rfl))) hI102
            have I136 : jI103 σ102 := jI103_fr ((f105 9 (of_decide_eq_true rfl)).trans (congrFun (f22 55 (of_decide_eq_true rfl)) 9)) hI103
            have I137 : jI104 σ102 := jI104_fr ((f105 10 (of_decide_eq_true rfl)).trans (congrFun (f22 55 (of_decide_eq_true rfl)) 10)) ((f105 12 (of_decide_eq_true rfl)).trans (congrFun (f22 55 (of_decide_eq_true rfl)) 12)) ((f105 13 (of_decide_eq_true rfl)).trans (congrFun (f22 55 (of_decide_eq_true rfl)) 13)) ((f104 62 (of_decide_eq_true rfl)).trans (f22 62 (of_decide_eq_true rfl))) ((f104 67 (of_decide_eq_true rfl)).trans (f22 67 (of_decide_eq_true rfl))) hI104
            have I138 : jI106 σ102 := jI106_fr ((f105 32 (of_decide_eq_true rfl)).trans (congrFun (f22 55 (of_decide_eq_true rfl)) 32)) ((f104 70 (of_decide_eq_true rfl)).trans (f22 70 (of_decide_eq_true rfl))) ((f104 71 (of_decide_eq_true rfl)).trans (f22 71 (of_decide_eq_true rfl))) ((f104 72 (of_decide_eq_true rfl)).trans (f22 72 (of_decide_eq_true rfl))) hI106
            have I139 : jI107 σ102 := jI107_fr ((f105 12 (of_decide_eq_true rfl)).trans (congrFun (f22 55 (of_decide_eq_true rfl)) 12)) ((f105 47 (of_decide_eq_true rfl)).trans (congrFun (f22 55 (of_decide_eq_true rfl)) 47)) ((f104 80 (of_decide_eq_true rfl)).trans (f22 80 (of_decide_eq_true rfl))) hI107
            have I140 : jI109 σ102 := jI109_fr ((f105 50 (of_decide_eq_true rfl)).trans (congrFun (f22 55 (of_decide_eq_true rfl)) 50)) hI109
            have I141 : jI110 σ102 := jI110_fr ((f104 86 (of_decide_eq_true rfl)).trans (f22 86 (of_decide_eq_true rfl))) ((f104 87 (of_decide_eq_true rfl)).trans (f22 87 (of_decide_eq_true rfl))) hI110
            have I142 : jI111 σ102 := jI111_fr ((f104 79 (of_decide_eq_true rfl)).trans (f22 79 (of_decide_eq_true rfl))) hI111
            have I143 : jI119 σ102 := jI119_fr ((f104 68 (of_decide_eq_true rfl)).trans (f22 68 (of_decide_eq_true rfl))) hI119
            have p144 : jKept σ102 := jKept.fr ((f104 75 (of_decide_eq_true rfl)).trans (f22 75 (of_decide_eq_true rfl))) ((f104 76 (of_decide_eq_true rfl)).trans (f22 76 (of_decide_eq_true rfl))) ((f104 77 (of_decide_eq_true rfl)).trans (f22 77 (of_decide_eq_true rfl))) hs_jKept
            have p145 : jBook σ102 := jBook.fr ((f105 47 (of_decide_eq_true rfl)).trans (congrFun (f22 55 (of_decide_eq_true rfl)) 47)) ((f105 10 (of_decide_eq_true rfl)).trans (congrFun (f22 55 (of_decide_eq_true rfl)) 10)) ((f104 81 (of_decide_eq_true rfl)).trans (f22 81 (of_decide_eq_true rfl))) hs_jBook
            have z146 : (σ102 9 0).toInt = (σ20 9 0).toInt := (congrArg Int32.toInt (show σ102 9 0 = (σ20 9 0) from (congrFun (f104 9 (of_decide_eq_true rfl)) 0)))
            have z147 : (σ102 16 0).toInt = (σ 16 0).toInt := (congrArg Int32.toInt (show σ102 16 0 = (σ 16 0) from ((congrFun (f104 16 (of_decide_eq_true rfl)) 0).trans (congrFun (f22 16 (of_decide_eq_true rfl)) 0))))
            have z148 : (σ102 55 10).toInt = (σ 55 10).toInt := (congrArg Int32.toInt (show σ102 55 10 = (σ 55 10) from ((f105 10 (of_decide_eq_true rfl)).trans (congrFun (f22 55 (of_decide_eq_true rfl)) 10))))
            have z149 : (σ102 16 1).toInt = (σ 16 1).toInt := (congrArg Int32.toInt (show σ102 16 1 = (σ 16 1) from ((congrFun (f104 16 (of_decide_eq_true rfl)) 1).trans (congrFun (f22 16 (of_decide_eq_true rfl)) 1))))
            have z150 : (σ102 55 12).toInt = (σ 55 12).toInt := (congrArg Int32.toInt (show σ102 55 12 = (σ 55 12) from ((f105 12 (of_decide_eq_true rfl)).trans (congrFun (f22 55 (of_decide_eq_true rfl)) 12))))
            have z151 : (σ102 16 2).toInt = (σ 16 2).toInt := (congrArg Int32.toInt (show σ102 16 2 = (σ 16 2) from ((congrFun (f104 16 (of_decide_eq_true rfl)) 2).trans (congrFun (f22 16 (of_decide_eq_true rfl)) 2))))
            have z152 : (σ102 55 13).toInt = (σ 55 13).toInt := (congrArg Int32.toInt (show σ102 55 13 = (σ 55 13) from ((f105 13 (of_decide_eq_true rfl)).trans (congrFun (f22 55 (of_decide_eq_true rfl)) 13))))
            exact by exact ih x122 σ102 τ _ _ ls (by have h9 := tx122; omega) ⟨I123, I124, I125, I126, I127, I128, I129, I130, I131, I132, I133, I134, I135, I136, I137, I106, I138, I139, I140, I141, I142, I143, p144, p145, (by omega), (by omega), (by omega), (by omega), (show jTp (σ102 10) (σ102 63) (σ102 55 15).toInt by rw [show σ102 10 = σ 10 from ((f104 10 (of_decide_eq_true rfl)).trans k98), show σ102 63 = σ 63 from (k120.trans (f22 63 (of_decide_eq_true rfl)))]; exact hr0.le (by omega)), (show jSo (σ102 17) (σ102 62) (σ102 16 0).toInt by rw [show σ102 17 = σ 17 from ((f104 17 (of_decide_eq_true rfl)).trans (f22 17 (of_decide_eq_true rfl))), show σ102 62 = σ 62 from ((f104 62 (of_decide_eq_true rfl)).trans (f22 62 (of_decide_eq_true rfl))), show (σ102 16 0).toInt = (σ 16 0).toInt from by omega]; exact hr1)⟩ hP hS (lv_sub hl [0, 1, 2, 3] rfl)
        · obtain ⟨q158, k153, k154, k155, k156, k157⟩ := h112
          exact absurd (by omega : False) id
    · obtain ⟨q164, k159, k160, k161, k162, k163⟩ := h31
      refine lv_pop hx hb dL_law_362 rfl ?_
      refine lv_aload_n hx hb dL_law_363 rfl (lv_at hl 1 rfl) ?_
      refine lv_aload_n hx hb dL_law_364 rfl (lv_at hl 3 rfl) ?_
      refine lv_iload_n hx hb dL_law_365 rfl (lv_at hl 0 rfl) ?_
      refine lv_iconst (v := 1) hx hb dL_law_366 (of_decide_eq_true rfl) ?_
      refine lv_iadd hx hb dL_law_367 ?_
      refine jtopr ex16.symm ?_
      exact by
       refine va_sld hx hb hX hbl hbA hS (jin tx16 (by omega) (by omega)) dL_law_368 ?_
       refine lv_aload_n hx hb dL_law_369 rfl (lv_at hl 3 rfl) ?_
       refine lv_iload_n hx hb dL_law_370 rfl (lv_at hl 0 rfl) ?_
       refine lv_iconst (v := 2) hx hb dL_law_371 (of_decide_eq_true rfl) ?_
       refine lv_iadd hx hb dL_law_372 ?_
       refine jtopr ex18.symm ?_
       refine va_sld hx hb hX hbl hbA hS (jin tx18 (by omega) (by omega)) dL_law_373 ?_
       have I165 : jI105 σ20 := jI105_fr (congrFun (f22 55 (of_decide_eq_true rfl)) 15) (f22 65 (of_decide_eq_true rfl)) hI105
       have z166 : (σ20 55 15).toInt = (σ 55 15).toInt := (congrArg Int32.toInt (show σ20 55 15 = (σ 55 15) from (congrFun (f22 55 (of_decide_eq_true rfl)) 15)))
       exact by
        refine jcallV (As := [.int (xs x16.toNatClampNeg), .int (xs x18.toNatClampNeg)]) (rest := []) ⟨hx, hb, hml, hown, hts⟩ hK hP hA hS hZ (c_X12_feed l D cI cL ad zz hJ σ20 τ (xs x16.toNatClampNeg) ((xs x16.toNatClampNeg).toInt) rfl (xs x18.toNatClampNeg) ((xs x18.toNatClampNeg).toInt) rfl I165) cw_RL_35 (jc_55 cI cL ad σ20 τ) rfl ⟨Nat.le_of_ble_eq_true rfl, Nat.le_of_ble_eq_true rfl⟩ rfl rfl rfl hl.1 rfl (Nat.le_of_ble_eq_true rfl) dL_law_374 ⟨Nat.le_of_ble_eq_true rfl, Nat.le_of_ble_eq_true rfl⟩ (fun r168 σ167 τ167 H locs h167 hP hS => ?_)
        obtain ⟨rfl, f169, f170, I171, h167⟩ := h167
        obtain ⟨i173, w174⟩ : (0 ≤ (σ167 55 15).toInt ∧ (σ167 55 15).toInt ≤ 80) ∧ (∀ k : Nat, k < 2 → (-1) ≤ (σ167 65 k).toInt ∧ (σ167 65 k).toInt ≤ 80) := id I171
        rcases h167 with h175 | h176 | h177
        · obtain ⟨q181, k178, k179, k180⟩ := h175
          exact absurd (by omega : False) id
        · obtain ⟨q186, k182, k183, k184, k185⟩ := h176
          exact absurd (by omega : False) id
        · obtain ⟨q192, k187, k188, k189, k190, k191⟩ := h177
          refine lv_pop hx hb dL_law_377 rfl ?_
          refine lv_goto (tgt := 1357) hx hb dL_law_378 (of_decide_eq_true rfl) ?_
          obtain ⟨x193, ex193⟩ : ∃ y : Int32, y = x0 + 6 := ⟨_, rfl⟩
          exact by
           have tx193 : x193.toInt = x0.toInt + 6 := (jadd ex193 rfl jz_6 (by omega) (by omega)).trans (by omega)
           refine lv_iinc (v := x193) (lv' := [(3, .int x193), (2, .ref (ad 55)), (1, .ref (ad 0)), (0, .ref b)]) hx hb dL_law_1357 hl (k := 0) rfl (by rw [ex193]; rfl) (of_decide_eq_true rfl) rfl (fun ls hl => ?_)
           refine lv_goto (tgt := 18) hx hb dL_law_1360 (of_decide_eq_true rfl) ?_
           have I194 : jI2 σ167 := jI2_fr ((congrFun (f169 2 (of_decide_eq_true rfl)) 0).trans (congrFun (f22 2 (of_decide_eq_true rfl)) 0)) ((congrFun (f169 2 (of_decide_eq_true rfl)) 1).trans (congrFun (f22 2 (of_decide_eq_true rfl)) 1)) ((congrFun (f169 2 (of_decide_eq_true rfl)) 2).trans (congrFun (f22 2 (of_decide_eq_true rfl)) 2)) ((congrFun (f169 2 (of_decide_eq_true rfl)) 3).trans (congrFun (f22 2 (of_decide_eq_true rfl)) 3)) ((f169 6 (of_decide_eq_true rfl)).trans (f22 6 (of_decide_eq_true rfl))) hI2
           have I195 : jI9 σ167 := jI9_fr (congrFun (f169 9 (of_decide_eq_true rfl)) 0) (f169 10 (of_decide_eq_true rfl)) (f169 11 (of_decide_eq_true rfl)) I24
           have I196 : jI12 σ167 := jI12_fr ((congrFun (f169 12 (of_decide_eq_true rfl)) 0).trans (congrFun (f22 12 (of_decide_eq_true rfl)) 0)) ((f169 13 (of_decide_eq_true rfl)).trans (f22 13 (of_decide_eq_true rfl))) hI12
           have I197 : jI16 σ167 := jI16_fr ((congrFun (f169 16 (of_decide_eq_true rfl)) 0).trans (congrFun (f22 16 (of_decide_eq_true rfl)) 0)) ((congrFun (f169 16 (of_decide_eq_true rfl)) 1).trans (congrFun (f22 16 (of_decide_eq_true rfl)) 1)) ((congrFun (f169 16 (of_decide_eq_true rfl)) 2).trans (congrFun (f22 16 (of_decide_eq_true rfl)) 2)) ((f169 17 (of_decide_eq_true rfl)).trans (f22 17 (of_decide_eq_true rfl))) hI16
           have I198 : jI18 σ167 := jI18_fr ((congrFun (f169 18 (of_decide_eq_true rfl)) 0).trans (congrFun (f22 18 (of_decide_eq_true rfl)) 0)) ((f169 19 (of_decide_eq_true rfl)).trans (f22 19 (of_decide_eq_true rfl))) hI18
           have I199 : jI22 σ167 := jI22_fr ((congrFun (f169 22 (of_decide_eq_true rfl)) 0).trans (congrFun (f22 22 (of_decide_eq_true rfl)) 0)) ((f169 23 (of_decide_eq_true rfl)).trans (f22 23 (of_decide_eq_true rfl))) hI22
           exact by
            have I200 : jI31 σ167 := jI31_fr ((congrFun (f169 31 (of_decide_eq_true rfl)) 8).trans (congrFun (f22 31 (of_decide_eq_true rfl)) 8)) ((f169 33 (of_decide_eq_true rfl)).trans (f22 33 (of_decide_eq_true rfl))) ((f169 36 (of_decide_eq_true rfl)).trans (f22 36 (of_decide_eq_true rfl))) hI31
            have I201 : jI38 σ167 := jI38_fr ((congrFun (f169 38 (of_decide_eq_true rfl)) 0).trans (congrFun (f22 38 (of_decide_eq_true rfl)) 0)) ((congrFun (f169 38 (of_decide_eq_true rfl)) 1).trans (congrFun (f22 38 (of_decide_eq_true rfl)) 1)) ((f169 39 (of_decide_eq_true rfl)).trans (f22 39 (of_decide_eq_true rfl))) hI38
            have I202 : jI43 σ167 := jI43_fr ((congrFun (f169 43 (of_decide_eq_true rfl)) 8).trans (congrFun (f22 43 (of_decide_eq_true rfl)) 8)) hI43
            have I203 : jI47 σ167 := jI47_fr ((congrFun (f169 47 (of_decide_eq_true rfl)) 0).trans (congrFun (f22 47 (of_decide_eq_true rfl)) 0)) ((f169 48 (of_decide_eq_true rfl)).trans (f22 48 (of_decide_eq_true rfl))) ((f169 49 (of_decide_eq_true rfl)).trans (f22 49 (of_decide_eq_true rfl))) hI47
            have I204 : jI50 σ167 := jI50_fr ((f169 52 (of_decide_eq_true rfl)).trans (f22 52 (of_decide_eq_true rfl))) hI50
            have I205 : jI101 σ167 := jI101_fr ((f170 4 (of_decide_eq_true rfl)).trans (congrFun (f22 55 (of_decide_eq_true rfl)) 4)) ((f170 5 (of_decide_eq_true rfl)).trans (congrFun (f22 55 (of_decide_eq_true rfl)) 5)) ((f169 56 (of_decide_eq_true rfl)).trans (f22 56 (of_decide_eq_true rfl))) ((f169 57 (of_decide_eq_true rfl)).trans (f22 57 (of_decide_eq_true rfl))) ((f169 58 (of_decide_eq_true rfl)).trans (f22 58 (of_decide_eq_true rfl))) ((f169 59 (of_decide_eq_true rfl)).trans (f22 59 (of_decide_eq_true rfl))) hI101
            have I206 : jI102 σ167 := jI102_fr ((f170 6 (of_decide_eq_true rfl)).trans (congrFun (f22 55 (of_decide_eq_true rfl)) 6)) ((f169 60 (of_decide_eq_true rfl)).trans (f22 60 (of_decide_eq_true rfl))) ((f169 61 (of_decide_eq_true rfl)).trans (f22 61 (of_decide_eq_true rfl))) hI102
            have I207 : jI103 σ167 := jI103_fr ((f170 9 (of_decide_eq_true rfl)).trans (congrFun (f22 55 (of_decide_eq_true rfl)) 9)) hI103
            have I208 : jI104 σ167 := jI104_fr ((f170 10 (of_decide_eq_true rfl)).trans (congrFun (f22 55 (of_decide_eq_true rfl)) 10)) ((f170 12 (of_decide_eq_true rfl)).trans (congrFun (f22 55 (of_decide_eq_true rfl)) 12)) ((f170 13 (of_decide_eq_true rfl)).trans (congrFun (f22 55 (of_decide_eq_true rfl)) 13)) ((f169 62 (of_decide_eq_true rfl)).trans (f22 62 (of_decide_eq_true rfl))) ((f169 67 (of_decide_eq_true rfl)).trans (f22 67 (of_decide_eq_true rfl))) hI104
            have I209 : jI106 σ167 := jI106_fr ((f170 32 (of_decide_eq_true rfl)).trans (congrFun (f22 55 (of_decide_eq_true rfl)) 32)) ((f169 70 (of_decide_eq_true rfl)).trans (f22 70 (of_decide_eq_true rfl))) ((f169 71 (of_decide_eq_true rfl)).trans (f22 71 (of_decide_eq_true rfl))) ((f169 72 (of_decide_eq_true rfl)).trans (f22 72 (of_decide_eq_true rfl))) hI106
            have I210 : jI107 σ167 := jI107_fr ((f170 12 (of_decide_eq_true rfl)).trans (congrFun (f22 55 (of_decide_eq_true rfl)) 12)) ((f170 47 (of_decide_eq_true rfl)).trans (congrFun (f22 55 (of_decide_eq_true rfl)) 47)) ((f169 80 (of_decide_eq_true rfl)).trans (f22 80 (of_decide_eq_true rfl))) hI107
            have I211 : jI109 σ167 := jI109_fr ((f170 50 (of_decide_eq_true rfl)).trans (congrFun (f22 55 (of_decide_eq_true rfl)) 50)) hI109
            have I212 : jI110 σ167 := jI110_fr ((f169 86 (of_decide_eq_true rfl)).trans (f22 86 (of_decide_eq_true rfl))) ((f169 87 (of_decide_eq_true rfl)).trans (f22 87 (of_decide_eq_true rfl))) hI110
            have I213 : jI111 σ167 := jI111_fr ((f169 79 (of_decide_eq_true rfl)).trans (f22 79 (of_decide_eq_true rfl))) hI111
            have I214 : jI119 σ167 := jI119_fr ((f169 68 (of_decide_eq_true rfl)).trans (f22 68 (of_decide_eq_true rfl))) hI119
            have p215 : jKept σ167 := jKept.fr ((f169 75 (of_decide_eq_true rfl)).trans (f22 75 (of_decide_eq_true rfl))) ((f169 76 (of_decide_eq_true rfl)).trans (f22 76 (of_decide_eq_true rfl))) ((f169 77 (of_decide_eq_true rfl)).trans (f22 77 (of_decide_eq_true rfl))) hs_jKept
            have p216 : jBook σ167 := jBook.fr ((f170 47 (of_decide_eq_true rfl)).trans (congrFun (f22 55 (of_decide_eq_true rfl)) 47)) ((f170 10 (of_decide_eq_true rfl)).trans (congrFun (f22 55 (of_decide_eq_true rfl)) 10)) ((f169 81 (of_decide_eq_true rfl)).trans (f22 81 (of_decide_eq_true rfl))) hs_jBook
            have z217 : (σ167 9 0).toInt = (σ20 9 0).toInt := (congrArg Int32.toInt (show σ167 9 0 = (σ20 9 0) from (congrFun (f169 9 (of_decide_eq_true rfl)) 0)))
            have z218 : (σ167 16 0).toInt = (σ 16 0).toInt := (congrArg Int32.toInt (show σ167 16 0 = (σ 16 0) from ((congrFun (f169 16 (of_decide_eq_true rfl)) 0).trans (congrFun (f22 16 (of_decide_eq_true rfl)) 0))))
            have z219 : (σ167 55 10).toInt = (σ 55 10).toInt := (congrArg Int32.toInt (show σ167 55 10 = (σ 55 10) from ((f170 10 (of_decide_eq_true rfl)).trans (congrFun (f22 55 (of_decide_eq_true rfl)) 10))))
            have z220 : (σ167 16 1).toInt = (σ 16 1).toInt := (congrArg Int32.toInt (show σ167 16 1 = (σ 16 1) from ((congrFun (f169 16 (of_decide_eq_true rfl)) 1).trans (congrFun (f22 16 (of_decide_eq_true rfl)) 1))))
            have z221 : (σ167 55 12).toInt = (σ 55 12).toInt := (congrArg Int32.toInt (show σ167 55 12 = (σ 55 12) from ((f170 12 (of_decide_eq_true rfl)).trans (congrFun (f22 55 (of_decide_eq_true rfl)) 12))))
            have z222 : (σ167 16 2).toInt = (σ 16 2).toInt := (congrArg Int32.toInt (show σ167 16 2 = (σ 16 2) from ((congrFun (f169 16 (of_decide_eq_true rfl)) 2).trans (congrFun (f22 16 (of_decide_eq_true rfl)) 2))))
            have z223 : (σ167 55 13).toInt = (σ 55 13).toInt := (congrArg Int32.toInt (show σ167 55 13 = (σ 55 13) from ((f170 13 (of_decide_eq_true rfl)).trans (congrFun (f22 55 (of_decide_eq_true rfl)) 13))))
            rw [show (σ 9 0).toInt = (σ 55 15).toInt from by omega] at k163
            rw [show (σ20 55 15).toInt = (σ 55 15).toInt from by omega, show σ20 63 = σ 63 from (f22 63 (of_decide_eq_true rfl))] at k191
            exact by exact ih x193 σ167 τ _ _ ls (by have h9 := tx193; omega) ⟨I194, I195, I196, I197, I198, I199, I200, I201, I202, I203, I204, I205, I206, I207, I208, I171, I209, I210, I211, I212, I213, I214, p215, p216, (by omega), (by omega), (by omega), (by omega), (show jTp (σ167 10) (σ167 63) (σ167 55 15).toInt by rw [show σ167 10 = σ20 10 from (f169 10 (of_decide_eq_true rfl))]; exact hr0.feed k163 k191 (by omega) (by omega) (by omega)), (show jSo (σ167 17) (σ167 62) (σ167 16 0).toInt by rw [show σ167 17 = σ 17 from ((f169 17 (of_decide_eq_true rfl)).trans (f22 17 (of_decide_eq_true rfl))), show σ167 62 = σ 62 from ((f169 62 (of_decide_eq_true rfl)).trans (f22 62 (of_decide_eq_true rfl))), show (σ167 16 0).toInt = (σ 16 0).toInt from by omega]; exact hr1)⟩ hP hS (lv_sub hl [0, 1, 2, 3] rfl)
set_option maxHeartbeats 4000000 in
set_option maxRecDepth 100000 in
theorem law_case_5 {p : Program} {e : Env} {s : State} {m : MethodId} {below : List Frame} {meth : Method} {c : Code} (l : Launch) {b L : Nat} {xs : Nat → Int32} {D : va_G} {cI cL : ClassId} {ad zz : Nat → Nat} (C0 : lw_At p s m meth c b L xs) (hJ : jD ad) (hA : ∀ q, jA ad q → s.heap.size ≤ q) (hK : jK D cI cL s) (hZ : jZ zz (fun q : Nat => s.heap.size ≤ q) s s.heap) {x0 : Int32} (hx0 : 0 ≤ x0.toInt) (hxL : x0.toInt + 6 ≤ (L : Int)) (hL : L ≤ 384) {σ : Nat → Nat → Int32} {τ : Nat → Nat → Int64} {H : Heap} {locs : List Loc} (hS : va_S (fun q : Nat => s.heap.size ≤ q) s.heap H locs) {ls : Array Slot} (hAll : jAll σ τ) (hP : jH D cI cL ad σ τ H) (hl : lv_has ls 4 [(3, .int x0), (2, .ref (ad 55)), (1, .ref (ad 0)), (0, .ref b)]) (ih : ∀ (x1 : Int32) (σ : Nat → Nat → Int32) (τ : Nat → Nat → Int64) (H : Heap) (locs : List Loc) (ls : Array Slot), x1.toInt = x0.toInt + 6 → jAll σ τ → jH D cI cL ad σ τ H → va_S (fun q : Nat => s.heap.size ≤ q) s.heap H locs → lv_has ls 4 [(3, .int x1), (2, .ref (ad 55)), (1, .ref (ad 0)), (0, .ref b)] → W p l e room_1 s m #[Value.ref b] below meth c H locs 90 348600 (lw_Z below #[Value.ref b] s) (F0 m 18 ls [])) : W p l e room_1 s m #[Value.ref b] below meth c H locs 90 348600 (lw_Z below #[Value.ref b] s) (F0 m 381 ls []) := by
  obtain ⟨hx, hb, hr, hml, hown, hts0, hX, hbl, hlocks, hgv⟩ := C0
  have hts : ∀ w ∈ wsL_law, w.before #[Value.ref b] s = true := fun w h => hts0 w (wsL_law_in w h)
  have hbA : ¬ (fun q : Nat => s.heap.size ≤ q) b := Nat.not_le.mpr hbl
  have hown : s.vm.findClass RL = some m.cls := hown
  obtain ⟨hI2, hI9, hI12, hI16, hI18, hI22, hI31, hI38, hI43, hI47, hI50, hI101, hI102, hI103, hI104, hI105, hI106, hI107, hI109, hI110, hI111, hI119, hs_jKept, hs_jBook, ht0, ht1, ht2, ht3, hr0, hr1⟩ := hAll
  have hL9 : (L : Int) ≤ 384 := by omega
  obtain ⟨i1, w2, w3⟩ : (0 ≤ (σ 9 0).toInt ∧ (σ 9 0).toInt ≤ 80) ∧ (∀ k : Nat, k < 80 → 0 ≤ (σ 10 k).toInt ∧ (σ 10 k).toInt ≤ 255) ∧ (∀ k : Nat, k < 8 → 0 ≤ (σ 11 k).toInt ∧ (σ 11 k).toInt ≤ 3) := id hI9
  obtain ⟨i4, i5, i6, w7⟩ : (1 ≤ (σ 16 0).toInt ∧ (σ 16 0).toInt ≤ 8) ∧ (1 ≤ (σ 16 1).toInt ∧ (σ 16 1).toInt ≤ 12) ∧ (0 ≤ (σ 16 2).toInt ∧ (σ 16 2).toInt ≤ 999) ∧ (∀ k : Nat, k < 8 → 0 ≤ (σ 17 k).toInt ∧ (σ 17 k).toInt ≤ 3) := id hI16
  obtain ⟨i8, i9, i10, w11, w12⟩ : (1 ≤ (σ 55 10).toInt ∧ (σ 55 10).toInt ≤ 8) ∧ (1 ≤ (σ 55 12).toInt ∧ (σ 55 12).toInt ≤ 12) ∧ (0 ≤ (σ 55 13).toInt ∧ (σ 55 13).toInt ≤ 999) ∧ (∀ k : Nat, k < 8 → 0 ≤ (σ 62 k).toInt ∧ (σ 62 k).toInt ≤ 3) ∧ (∀ k : Nat, k < 8 → 0 ≤ (σ 67 k).toInt ∧ (σ 67 k).toInt ≤ 3) := id hI104
  obtain ⟨i13, w14⟩ : (0 ≤ (σ 55 15).toInt ∧ (σ 55 15).toInt ≤ 80) ∧ (∀ k : Nat, k < 2 → (-1) ≤ (σ 65 k).toInt ∧ (σ 65 k).toInt ≤ 80) := id hI105
  refine lv_aload_n hx hb dL_law_381 rfl (lv_at hl 2 rfl) ?_
  refine jcallV (As := []) (rest := []) ⟨hx, hb, hml, hown, hts⟩ hK hP hA hS hZ (c_X11_order l D cI cL ad zz hJ σ τ hI9 hI16 hI47) cw_RL_36 (jc_0 cI cL ad σ τ) rfl ⟨Nat.le_of_ble_eq_true rfl, Nat.le_of_ble_eq_true rfl⟩ rfl rfl rfl hl.1 rfl (Nat.le_of_ble_eq_true rfl) dL_law_382 ⟨Nat.le_of_ble_eq_true rfl, Nat.le_of_ble_eq_true rfl⟩ (fun r16 σ15 τ15 H locs h15 hP hS => ?_)
  obtain ⟨rfl, f17, f18, f19, f20, I21, I22, I23, w24, h15⟩ := h15
  obtain ⟨i26, w27, w28⟩ : (0 ≤ (σ15 9 0).toInt ∧ (σ15 9 0).toInt ≤ 80) ∧ (∀ k : Nat, k < 80 → 0 ≤ (σ15 10 k).toInt ∧ (σ15 10 k).toInt ≤ 255) ∧ (∀ k : Nat, k < 8 → 0 ≤ (σ15 11 k).toInt ∧ (σ15 11 k).toInt ≤ 3) := id I21
  obtain ⟨i29, i30, i31, w32⟩ : (1 ≤ (σ15 16 0).toInt ∧ (σ15 16 0).toInt ≤ 8) ∧ (1 ≤ (σ15 16 1).toInt ∧ (σ15 16 1).toInt ≤ 12) ∧ (0 ≤ (σ15 16 2).toInt ∧ (σ15 16 2).toInt ≤ 999) ∧ (∀ k : Nat, k < 8 → 0 ≤ (σ15 17 k).toInt ∧ (σ15 17 k).toInt ≤ 3) := id I22
  obtain ⟨k33, h15⟩ := h15
  rcases h15 with h34 | h35
  · obtain ⟨q38, k36, k37⟩ := h34
    refine lv_pop hx hb dL_law_385 rfl ?_
    refine lv_aload_n hx hb dL_law_386 rfl (lv_at hl 1 rfl) ?_
    have I39 : jI104 σ15 := jI104_fr (congrFun (f17 55 (of_decide_eq_true rfl)) 10) (congrFun (f17 55 (of_decide_eq_true rfl)) 12) (congrFun (f17 55 (of_decide_eq_true rfl)) 13) (f17 62 (of_decide_eq_true rfl)) (f17 67 (of_decide_eq_true rfl)) hI104
    have I40 : jI105 σ15 := jI105_fr (congrFun (f17 55 (of_decide_eq_true rfl)) 15) (f17 65 (of_decide_eq_true rfl)) hI105
    have I41 : jI107 σ15 := jI107_fr (congrFun (f17 55 (of_decide_eq_true rfl)) 12) (congrFun (f17 55 (of_decide_eq_true rfl)) 47) (f17 80 (of_decide_eq_true rfl)) hI107
    have p42 : jBook σ15 := jBook.fr (congrFun (f17 55 (of_decide_eq_true rfl)) 47) (congrFun (f17 55 (of_decide_eq_true rfl)) 10) (f17 81 (of_decide_eq_true rfl)) hs_jBook
    have z43 : (σ15 55 47).toInt = (σ 55 47).toInt := (congrArg Int32.toInt (show σ15 55 47 = (σ 55 47) from (congrFun (f17 55 (of_decide_eq_true rfl)) 47)))
    refine jcallV (As := []) (rest := []) ⟨hx, hb, hml, hown, hts⟩ hK hP hA hS hZ (c_X12_order l D cI cL ad zz hJ σ15 τ I39 I40 I41 p42) cw_RL_40 (jc_55 cI cL ad σ15 τ) rfl ⟨Nat.le_of_ble_eq_true rfl, Nat.le_of_ble_eq_true rfl⟩ rfl rfl rfl hl.1 rfl (Nat.le_of_ble_eq_true rfl) dL_law_387 ⟨Nat.le_of_ble_eq_true rfl, Nat.le_of_ble_eq_true rfl⟩ (fun r45 σ44 τ44 H locs h44 hP hS => ?_)
    obtain ⟨rfl, f46, f47, I48, I49, I50, p51, w52, h44⟩ := h44
    obtain ⟨i54, i55, i56, w57, w58⟩ : (1 ≤ (σ44 55 10).toInt ∧ (σ44 55 10).toInt ≤ 8) ∧ (1 ≤ (σ44 55 12).toInt ∧ (σ44 55 12).toInt ≤ 12) ∧ (0 ≤ (σ44 55 13).toInt ∧ (σ44 55 13).toInt ≤ 999) ∧ (∀ k : Nat, k < 8 → 0 ≤ (σ44 62 k).toInt ∧ (σ44 62 k).toInt ≤ 3) ∧ (∀ k : Nat, k < 8 → 0 ≤ (σ44 67 k).toInt ∧ (σ44 67 k).toInt ≤ 3) := id I48
    obtain ⟨i59, w60⟩ : (0 ≤ (σ44 55 15).toInt ∧ (σ44 55 15).toInt ≤ 80) ∧ (∀ k : Nat, k < 2 → (-1) ≤ (σ44 65 k).toInt ∧ (σ44 65 k).toInt ≤ 80) := id I49
    have z61 : (σ15 55 10).toInt = (σ 55 10).toInt := (congrArg Int32.toInt (show σ15 55 10 = (σ 55 10) from (congrFun (f17 55 (of_decide_eq_true rfl)) 10)))
    have z62 : (σ15 55 12).toInt = (σ 55 12).toInt := (congrArg Int32.toInt (show σ15 55 12 = (σ 55 12) from (congrFun (f17 55 (of_decide_eq_true rfl)) 12)))
    have z63 : (σ15 55 13).toInt = (σ 55 13).toInt := (congrArg Int32.toInt (show σ15 55 13 = (σ 55 13) from (congrFun (f17 55 (of_decide_eq_true rfl)) 13)))
    have z64 : (σ15 55 15).toInt = (σ 55 15).toInt := (congrArg Int32.toInt (show σ15 55 15 = (σ 55 15) from (congrFun (f17 55 (of_decide_eq_true rfl)) 15)))
    rw [show (σ15 55 10).toInt = (σ 55 10).toInt from by omega, show (σ15 55 12).toInt = (σ 55 12).toInt from by omega, show (σ15 55 13).toInt = (σ 55 13).toInt from by omega, show (σ15 55 15).toInt = (σ 55 15).toInt from by omega, show σ15 63 = σ 63 from (f17 63 (of_decide_eq_true rfl)), show σ15 62 = σ 62 from (f17 62 (of_decide_eq_true rfl))] at w52
    rw [show (σ 9 0).toInt = (σ 55 15).toInt from by omega] at w24
    exact by
     have p65 := hr0 |> fun h => jOrA.det h w24 w52 (by omega) (by omega) (by omega) hr1
     obtain ⟨k66, k67, k68, k69, p65⟩ := p65
     obtain ⟨k70, h44⟩ := h44
     rcases h44 with h71 | h72
     · obtain ⟨q75, k73, k74⟩ := h71
       refine lv_pop hx hb dL_law_390 rfl ?_
       refine lv_goto (tgt := 1357) hx hb dL_law_391 (of_decide_eq_true rfl) ?_
       obtain ⟨x76, ex76⟩ : ∃ y : Int32, y = x0 + 6 := ⟨_, rfl⟩
       have tx76 : x76.toInt = x0.toInt + 6 := (jadd ex76 rfl jz_6 (by omega) (by omega)).trans (by omega)
       exact by
        refine lv_iinc (v := x76) (lv' := [(3, .int x76), (2, .ref (ad 55)), (1, .ref (ad 0)), (0, .ref b)]) hx hb dL_law_1357 hl (k := 0) rfl (by rw [ex76]; rfl) (of_decide_eq_true rfl) rfl (fun ls hl => ?_)
        refine lv_goto (tgt := 18) hx hb dL_law_1360 (of_decide_eq_true rfl) ?_
        have I77 : jI2 σ44 := jI2_fr ((congrFun (f46 2 (of_decide_eq_true rfl)) 0).trans (congrFun (f17 2 (of_decide_eq_true rfl)) 0)) ((congrFun (f46 2 (of_decide_eq_true rfl)) 1).trans (congrFun (f17 2 (of_decide_eq_true rfl)) 1)) ((congrFun (f46 2 (of_decide_eq_true rfl)) 2).trans (congrFun (f17 2 (of_decide_eq_true rfl)) 2)) ((congrFun (f46 2 (of_decide_eq_true rfl)) 3).trans (congrFun (f17 2 (of_decide_eq_true rfl)) 3)) ((f46 6 (of_decide_eq_true rfl)).trans (f17 6 (of_decide_eq_true rfl))) hI2
        have I78 : jI9 σ44 := jI9_fr (congrFun (f46 9 (of_decide_eq_true rfl)) 0) (f46 10 (of_decide_eq_true rfl)) (f46 11 (of_decide_eq_true rfl)) I21
        have I79 : jI12 σ44 := jI12_fr ((congrFun (f46 12 (of_decide_eq_true rfl)) 0).trans (congrFun (f17 12 (of_decide_eq_true rfl)) 0)) ((f46 13 (of_decide_eq_true rfl)).trans (f17 13 (of_decide_eq_true rfl))) hI12
        have I80 : jI16 σ44 := jI16_fr (congrFun (f46 16 (of_decide_eq_true rfl)) 0) (congrFun (f46 16 (of_decide_eq_true rfl)) 1) (congrFun (f46 16 (of_decide_eq_true rfl)) 2) (f46 17 (of_decide_eq_true rfl)) I22
        have I81 : jI18 σ44 := jI18_fr ((congrFun (f46 18 (of_decide_eq_true rfl)) 0).trans (congrFun (f17 18 (of_decide_eq_true rfl)) 0)) ((f46 19 (of_decide_eq_true rfl)).trans (f17 19 (of_decide_eq_true rfl))) hI18
        have I82 : jI22 σ44 := jI22_fr ((congrFun (f46 22 (of_decide_eq_true rfl)) 0).trans (congrFun (f17 22 (of_decide_eq_true rfl)) 0)) ((f46 23 (of_decide_eq_true rfl)).trans (f17 23 (of_decide_eq_true rfl))) hI22
        have I83 : jI31 σ44 := jI31_fr ((congrFun (f46 31 (of_decide_eq_true rfl)) 8).trans (congrFun (f17 31 (of_decide_eq_true rfl)) 8)) ((f46 33 (of_decide_eq_true rfl)).trans (f17 33 (of_decide_eq_true rfl))) ((f46 36 (of_decide_eq_true rfl)).trans (f17 36 (of_decide_eq_true rfl))) hI31
        have I84 : jI38 σ44 := jI38_fr ((congrFun (f46 38 (of_decide_eq_true rfl)) 0).trans (congrFun (f17 38 (of_decide_eq_true rfl)) 0)) ((congrFun (f46 38 (of_decide_eq_true rfl)) 1).trans (congrFun (f17 38 (of_decide_eq_true rfl)) 1)) ((f46 39 (of_decide_eq_true rfl)).trans (f17 39 (of_decide_eq_true rfl))) hI38
        have I85 : jI43 σ44 := jI43_fr ((congrFun (f46 43 (of_decide_eq_true rfl)) 8).trans (congrFun (f17 43 (of_decide_eq_true rfl)) 8)) hI43
        have I86 : jI47 σ44 := jI47_fr (congrFun (f46 47 (of_decide_eq_true rfl)) 0) (f46 48 (of_decide_eq_true rfl)) (f46 49 (of_decide_eq_true rfl)) I23
        have I87 : jI50 σ44 := jI50_fr ((f46 52 (of_decide_eq_true rfl)).trans (f17 52 (of_decide_eq_true rfl))) hI50
        have I88 : jI101 σ44 := jI101_fr ((f47 4 (of_decide_eq_true rfl)).trans (congrFun (f17 55 (of_decide_eq_true rfl)) 4)) ((f47 5 (of_decide_eq_true rfl)).trans (congrFun (f17 55 (of_decide_eq_true rfl)) 5)) ((f46 56 (of_decide_eq_true rfl)).trans (f17 56 (of_decide_eq_true rfl))) ((f46 57 (of_decide_eq_true rfl)).trans (f17 57 (of_decide_eq_true rfl))) ((f46 58 (of_decide_eq_true rfl)).trans (f17 58 (of_decide_eq_true rfl))) ((f46 59 (of_decide_eq_true rfl)).trans (f17 59 (of_decide_eq_true rfl))) hI101
        have I89 : jI102 σ44 := jI102_fr ((f47 6 (of_decide_eq_true rfl)).trans (congrFun (f17 55 (of_decide_eq_true rfl)) 6)) ((f46 60 (of_decide_eq_true rfl)).trans (f17 60 (of_decide_eq_true rfl))) ((f46 61 (of_decide_eq_true rfl)).trans (f17 61 (of_decide_eq_true rfl))) hI102
        have I90 : jI103 σ44 := jI103_fr ((f47 9 (of_decide_eq_true rfl)).trans (congrFun (f17 55 (of_decide_eq_true rfl)) 9)) hI103
        have I91 : jI106 σ44 := jI106_fr ((f47 32 (of_decide_eq_true rfl)).trans (congrFun (f17 55 (of_decide_eq_true rfl)) 32)) ((f46 70 (of_decide_eq_true rfl)).trans (f17 70 (of_decide_eq_true rfl))) ((f46 71 (of_decide_eq_true rfl)).trans (f17 71 (of_decide_eq_true rfl))) ((f46 72 (of_decide_eq_true rfl)).trans (f17 72 (of_decide_eq_true rfl))) hI106
        have I92 : jI109 σ44 := jI109_fr ((f47 50 (of_decide_eq_true rfl)).trans (congrFun (f17 55 (of_decide_eq_true rfl)) 50)) hI109
        have I93 : jI110 σ44 := jI110_fr ((f46 86 (of_decide_eq_true rfl)).trans (f17 86 (of_decide_eq_true rfl))) ((f46 87 (of_decide_eq_true rfl)).trans (f17 87 (of_decide_eq_true rfl))) hI110
        have I94 : jI111 σ44 := jI111_fr ((f46 79 (of_decide_eq_true rfl)).trans (f17 79 (of_decide_eq_true rfl))) hI111
        have I95 : jI119 σ44 := jI119_fr ((f46 68 (of_decide_eq_true rfl)).trans (f17 68 (of_decide_eq_true rfl))) hI119
        have p96 : jKept σ44 := jKept.fr ((f46 75 (of_decide_eq_true rfl)).trans (f17 75 (of_decide_eq_true rfl))) ((f46 76 (of_decide_eq_true rfl)).trans (f17 76 (of_decide_eq_true rfl))) ((f46 77 (of_decide_eq_true rfl)).trans (f17 77 (of_decide_eq_true rfl))) hs_jKept
        have z97 : (σ44 9 0).toInt = (σ15 9 0).toInt := (congrArg Int32.toInt (show σ44 9 0 = (σ15 9 0) from (congrFun (f46 9 (of_decide_eq_true rfl)) 0)))
        have z98 : (σ44 16 0).toInt = (σ15 16 0).toInt := (congrArg Int32.toInt (show σ44 16 0 = (σ15 16 0) from (congrFun (f46 16 (of_decide_eq_true rfl)) 0)))
        have z99 : (σ44 16 1).toInt = (σ15 16 1).toInt := (congrArg Int32.toInt (show σ44 16 1 = (σ15 16 1) from (congrFun (f46 16 (of_decide_eq_true rfl)) 1)))
        have z100 : (σ44 16 2).toInt = (σ15 16 2).toInt := (congrArg Int32.toInt (show σ44 16 2 = (σ15 16 2) from (congrFun (f46 16 (of_decide_eq_true rfl)) 2)))
        exact by exact ih x76 σ44 τ _ _ ls (by have h9 := tx76; omega) ⟨I77, I78, I79, I80, I81, I82, I83, I84, I85, I86, I87, I88, I89, I90, I48, I49, I91, I50, I92, I93, I94, I95, p96, p51, (by omega), (by omega), (by omega), (by omega), (show jTp (σ44 10) (σ44 63) (σ44 55 15).toInt by rw [show σ44 10 = σ 10 from ((f46 10 (of_decide_eq_true rfl)).trans (f17 10 (of_decide_eq_true rfl))), show σ44 63 = σ 63 from ((f46 63 (of_decide_eq_true rfl)).trans (f17 63 (of_decide_eq_true rfl)))]; exact hr0.le (by omega)), (show jSo (σ44 17) (σ44 62) (σ44 16 0).toInt by rw [show σ44 17 = σ15 17 from (f46 17 (of_decide_eq_true rfl)), show (σ44 16 0).toInt = (σ15 16 0).toInt from by omega]; exact p65)⟩ hP hS (lv_sub hl [0, 1, 2, 3] rfl)
     · obtain ⟨q103, k101, k102⟩ := h72
       exact absurd (by omega : False) id
  · obtain ⟨q106, k104, k105⟩ := h35
    refine lv_pop hx hb dL_law_385 rfl ?_
    refine lv_aload_n hx hb dL_law_386 rfl (lv_at hl 1 rfl) ?_
    have I107 : jI104 σ15 := jI104_fr (congrFun (f17 55 (of_decide_eq_true rfl)) 10) (congrFun (f17 55 (of_decide_eq_true rfl)) 12) (congrFun (f17 55 (of_decide_eq_true rfl)) 13) (f17 62 (of_decide_eq_true rfl)) (f17 67 (of_decide_eq_true rfl)) hI104
    have I108 : jI105 σ15 := jI105_fr (congrFun (f17 55 (of_decide_eq_true rfl)) 15) (f17 65 (of_decide_eq_true rfl)) hI105
    have I109 : jI107 σ15 := jI107_fr (congrFun (f17 55 (of_decide_eq_true rfl)) 12) (congrFun (f17 55 (of_decide_eq_true rfl)) 47) (f17 80 (of_decide_eq_true rfl)) hI107
    have p110 : jBook σ15 := jBook.fr (congrFun (f17 55 (of_decide_eq_true rfl)) 47) (congrFun (f17 55 (of_decide_eq_true rfl)) 10) (f17 81 (of_decide_eq_true rfl)) hs_jBook
    have z111 : (σ15 55 47).toInt = (σ 55 47).toInt := (congrArg Int32.toInt (show σ15 55 47 = (σ 55 47) from (congrFun (f17 55 (of_decide_eq_true rfl)) 47)))
    refine jcallV (As := []) (rest := []) ⟨hx, hb, hml, hown, hts⟩ hK hP hA hS hZ (c_X12_order l D cI cL ad zz hJ σ15 τ I107 I108 I109 p110) cw_RL_40 (jc_55 cI cL ad σ15 τ) rfl ⟨Nat.le_of_ble_eq_true rfl, Nat.le_of_ble_eq_true rfl⟩ rfl rfl rfl hl.1 rfl (Nat.le_of_ble_eq_true rfl) dL_law_387 ⟨Nat.le_of_ble_eq_true rfl, Nat.le_of_ble_eq_true rfl⟩ (fun r113 σ112 τ112 H locs h112 hP hS => ?_)
    obtain ⟨rfl, f114, f115, I116, I117, I118, p119, w120, h112⟩ := h112
    obtain ⟨i122, i123, i124, w125, w126⟩ : (1 ≤ (σ112 55 10).toInt ∧ (σ112 55 10).toInt ≤ 8) ∧ (1 ≤ (σ112 55 12).toInt ∧ (σ112 55 12).toInt ≤ 12) ∧ (0 ≤ (σ112 55 13).toInt ∧ (σ112 55 13).toInt ≤ 999) ∧ (∀ k : Nat, k < 8 → 0 ≤ (σ112 62 k).toInt ∧ (σ112 62 k).toInt ≤ 3) ∧ (∀ k : Nat, k < 8 → 0 ≤ (σ112 67 k).toInt ∧ (σ112 67 k).toInt ≤ 3) := id I116
    obtain ⟨i127, w128⟩ : (0 ≤ (σ112 55 15).toInt ∧ (σ112 55 15).toInt ≤ 80) ∧ (∀ k : Nat, k < 2 → (-1) ≤ (σ112 65 k).toInt ∧ (σ112 65 k).toInt ≤ 80) := id I117
    have z129 : (σ15 55 10).toInt = (σ 55 10).toInt := (congrArg Int32.toInt (show σ15 55 10 = (σ 55 10) from (congrFun (f17 55 (of_decide_eq_true rfl)) 10)))
    have z130 : (σ15 55 12).toInt = (σ 55 12).toInt := (congrArg Int32.toInt (show σ15 55 12 = (σ 55 12) from (congrFun (f17 55 (of_decide_eq_true rfl)) 12)))
    have z131 : (σ15 55 13).toInt = (σ 55 13).toInt := (congrArg Int32.toInt (show σ15 55 13 = (σ 55 13) from (congrFun (f17 55 (of_decide_eq_true rfl)) 13)))
    have z132 : (σ15 55 15).toInt = (σ 55 15).toInt := (congrArg Int32.toInt (show σ15 55 15 = (σ 55 15) from (congrFun (f17 55 (of_decide_eq_true rfl)) 15)))
    rw [show (σ15 55 10).toInt = (σ 55 10).toInt from by omega, show (σ15 55 12).toInt = (σ 55 12).toInt from by omega, show (σ15 55 13).toInt = (σ 55 13).toInt from by omega, show (σ15 55 15).toInt = (σ 55 15).toInt from by omega, show σ15 63 = σ 63 from (f17 63 (of_decide_eq_true rfl)), show σ15 62 = σ 62 from (f17 62 (of_decide_eq_true rfl))] at w120
    rw [show (σ 9 0).toInt = (σ 55 15).toInt from by omega] at w24
    exact by
     have p133 := hr0 |> fun h => jOrA.det h w24 w120 (by omega) (by omega) (by omega) hr1
     obtain ⟨k134, k135, k136, k137, p133⟩ := p133
     obtain ⟨k138, h112⟩ := h112
     rcases h112 with h139 | h140
     · obtain ⟨q143, k141, k142⟩ := h139
       exact absurd (by omega : False) id
     · obtain ⟨q146, k144, k145⟩ := h140
       refine lv_pop hx hb dL_law_390 rfl ?_
       refine lv_goto (tgt := 1357) hx hb dL_law_391 (of_decide_eq_true rfl) ?_
       obtain ⟨x147, ex147⟩ : ∃ y : Int32, y = x0 + 6 := ⟨_, rfl⟩
       exact by
        have tx147 : x147.toInt = x0.toInt + 6 := (jadd ex147 rfl jz_6 (by omega) (by omega)).trans (by omega)
        refine lv_iinc (v := x147) (lv' := [(3, .int x147), (2, .ref (ad 55)), (1, .ref (ad 0)), (0, .ref b)]) hx hb dL_law_1357 hl (k := 0) rfl (by rw [ex147]; rfl) (of_decide_eq_true rfl) rfl (fun ls hl => ?_)
        refine lv_goto (tgt := 18) hx hb dL_law_1360 (of_decide_eq_true rfl) ?_
        have I148 : jI2 σ112 := jI2_fr ((congrFun (f114 2 (of_decide_eq_true rfl)) 0).trans (congrFun (f17 2 (of_decide_eq_true rfl)) 0)) ((congrFun (f114 2 (of_decide_eq_true rfl)) 1).trans (congrFun (f17 2 (of_decide_eq_true rfl)) 1)) ((congrFun (f114 2 (of_decide_eq_true rfl)) 2).trans (congrFun (f17 2 (of_decide_eq_true rfl)) 2)) ((congrFun (f114 2 (of_decide_eq_true rfl)) 3).trans (congrFun (f17 2 (of_decide_eq_true rfl)) 3)) ((f114 6 (of_decide_eq_true rfl)).trans (f17 6 (of_decide_eq_true rfl))) hI2
        have I149 : jI9 σ112 := jI9_fr (congrFun (f114 9 (of_decide_eq_true rfl)) 0) (f114 10 (of_decide_eq_true rfl)) (f114 11 (of_decide_eq_true rfl)) I21
        have I150 : jI12 σ112 := jI12_fr ((congrFun (f114 12 (of_decide_eq_true rfl)) 0).trans (congrFun (f17 12 (of_decide_eq_true rfl)) 0)) ((f114 13 (of_decide_eq_true rfl)).trans (f17 13 (of_decide_eq_true rfl))) hI12
        have I151 : jI16 σ112 := jI16_fr (congrFun (f114 16 (of_decide_eq_true rfl)) 0) (congrFun (f114 16 (of_decide_eq_true rfl)) 1) (congrFun (f114 16 (of_decide_eq_true rfl)) 2) (f114 17 (of_decide_eq_true rfl)) I22
        have I152 : jI18 σ112 := jI18_fr ((congrFun (f114 18 (of_decide_eq_true rfl)) 0).trans (congrFun (f17 18 (of_decide_eq_true rfl)) 0)) ((f114 19 (of_decide_eq_true rfl)).trans (f17 19 (of_decide_eq_true rfl))) hI18
        have I153 : jI22 σ112 := jI22_fr ((congrFun (f114 22 (of_decide_eq_true rfl)) 0).trans (congrFun (f17 22 (of_decide_eq_true rfl)) 0)) ((f114 23 (of_decide_eq_true rfl)).trans (f17 23 (of_decide_eq_true rfl))) hI22
        exact by
         have I154 : jI31 σ112 := jI31_fr ((congrFun (f114 31 (of_decide_eq_true rfl)) 8).trans (congrFun (f17 31 (of_decide_eq_true rfl)) 8)) ((f114 33 (of_decide_eq_true rfl)).trans (f17 33 (of_decide_eq_true rfl))) ((f114 36 (of_decide_eq_true rfl)).trans (f17 36 (of_decide_eq_true rfl))) hI31
         have I155 : jI38 σ112 := jI38_fr ((congrFun (f114 38 (of_decide_eq_true rfl)) 0).trans (congrFun (f17 38 (of_decide_eq_true rfl)) 0)) ((congrFun (f114 38 (of_decide_eq_true rfl)) 1).trans (congrFun (f17 38 (of_decide_eq_true rfl)) 1)) ((f114 39 (of_decide_eq_true rfl)).trans (f17 39 (of_decide_eq_true rfl))) hI38
         have I156 : jI43 σ112 := jI43_fr ((congrFun (f114 43 (of_decide_eq_true rfl)) 8).trans (congrFun (f17 43 (of_decide_eq_true rfl)) 8)) hI43
         have I157 : jI47 σ112 := jI47_fr (congrFun (f114 47 (of_decide_eq_true rfl)) 0) (f114 48 (of_decide_eq_true rfl)) (f114 49 (of_decide_eq_true rfl)) I23
         have I158 : jI50 σ112 := jI50_fr ((f114 52 (of_decide_eq_true rfl)).trans (f17 52 (of_decide_eq_true rfl))) hI50
         have I159 : jI101 σ112 := jI101_fr ((f115 4 (of_decide_eq_true rfl)).trans (congrFun (f17 55 (of_decide_eq_true rfl)) 4)) ((f115 5 (of_decide_eq_true rfl)).trans (congrFun (f17 55 (of_decide_eq_true rfl)) 5)) ((f114 56 (of_decide_eq_true rfl)).trans (f17 56 (of_decide_eq_true rfl))) ((f114 57 (of_decide_eq_true rfl)).trans (f17 57 (of_decide_eq_true rfl))) ((f114 58 (of_decide_eq_true rfl)).trans (f17 58 (of_decide_eq_true rfl))) ((f114 59 (of_decide_eq_true rfl)).trans (f17 59 (of_decide_eq_true rfl))) hI101
         have I160 : jI102 σ112 := jI102_fr ((f115 6 (of_decide_eq_true rfl)).trans (congrFun (f17 55 (of_decide_eq_true rfl)) 6)) ((f114 60 (of_decide_eq_true rfl)).trans (f17 60 (of_decide_eq_true rfl))) ((f114 61 (of_decide_eq_true rfl)).trans (f17 61 (of_decide_eq_true rfl))) hI102
         have I161 : jI103 σ112 := jI103_fr ((f115 9 (of_decide_eq_true rfl)).trans (congrFun (f17 55 (of_decide_eq_true rfl)) 9)) hI103
         have I162 : jI106 σ112 := jI106_fr ((f115 32 (of_decide_eq_true rfl)).trans (congrFun (f17 55 (of_decide_eq_true rfl)) 32)) ((f114 70 (of_decide_eq_true rfl)).trans (f17 70 (of_decide_eq_true rfl))) ((f114 71 (of_decide_eq_true rfl)).trans (f17 71 (of_decide_eq_true rfl))) ((f114 72 (of_decide_eq_true rfl)).trans (f17 72 (of_decide_eq_true rfl))) hI106
         have I163 : jI109 σ112 := jI109_fr ((f115 50 (of_decide_eq_true rfl)).trans (congrFun (f17 55 (of_decide_eq_true rfl)) 50)) hI109
         have I164 : jI110 σ112 := jI110_fr ((f114 86 (of_decide_eq_true rfl)).trans (f17 86 (of_decide_eq_true rfl))) ((f114 87 (of_decide_eq_true rfl)).trans (f17 87 (of_decide_eq_true rfl))) hI110
         have I165 : jI111 σ112 := jI111_fr ((f114 79 (of_decide_eq_true rfl)).trans (f17 79 (of_decide_eq_true rfl))) hI111
         have I166 : jI119 σ112 := jI119_fr ((f114 68 (of_decide_eq_true rfl)).trans (f17 68 (of_decide_eq_true rfl))) hI119
         have p167 : jKept σ112 := jKept.fr ((f114 75 (of_decide_eq_true rfl)).trans (f17 75 (of_decide_eq_true rfl))) ((f114 76 (of_decide_eq_true rfl)).trans (f17 76 (of_decide_eq_true rfl))) ((f114 77 (of_decide_eq_true rfl)).trans (f17 77 (of_decide_eq_true rfl))) hs_jKept
         have z168 : (σ112 9 0).toInt = (σ15 9 0).toInt := (congrArg Int32.toInt (show σ112 9 0 = (σ15 9 0) from (congrFun (f114 9 (of_decide_eq_true rfl)) 0)))
         have z169 : (σ112 16 0).toInt = (σ15 16 0).toInt := (congrArg Int32.toInt (show σ112 16 0 = (σ15 16 0) from (congrFun (f114 16 (of_decide_eq_true rfl)) 0)))
         have z170 : (σ112 16 1).toInt = (σ15 16 1).toInt := (congrArg Int32.toInt (show σ112 16 1 = (σ15 16 1) from (congrFun (f114 16 (of_decide_eq_true rfl)) 1)))
         have z171 : (σ112 16 2).toInt = (σ15 16 2).toInt := (congrArg Int32.toInt (show σ112 16 2 = (σ15 16 2) from (congrFun (f114 16 (of_decide_eq_true rfl)) 2)))
         exact by exact ih x147 σ112 τ _ _ ls (by have h9 := tx147; omega) ⟨I148, I149, I150, I151, I152, I153, I154, I155, I156, I157, I158, I159, I160, I161, I116, I117, I162, I118, I163, I164, I165, I166, p167, p119, (by omega), (by omega), (by omega), (by omega), (show jTp (σ112 10) (σ112 63) (σ112 55 15).toInt by rw [show σ112 10 = σ 10 from ((f114 10 (of_decide_eq_true rfl)).trans (f17 10 (of_decide_eq_true rfl))), show σ112 63 = σ 63 from ((f114 63 (of_decide_eq_true rfl)).trans (f17 63 (of_decide_eq_true rfl)))]; exact hr0.le (by omega)), (show jSo (σ112 17) (σ112 62) (σ112 16 0).toInt by rw [show σ112 17 = σ15 17 from (f114 17 (of_decide_eq_true rfl)), show (σ112 16 0).toInt = (σ15 16 0).toInt from by omega]; exact p133)⟩ hP hS (lv_sub hl [0, 1, 2, 3] rfl)
set_option maxHeartbeats 4000000 in
set_option maxRecDepth 100000 in
theorem law_case_6 {p : Program} {e : Env} {s : State} {m : MethodId} {below : List Frame} {meth : Method} {c : Code} (l : Launch) {b L : Nat} {xs : Nat → Int32} {D : va_G} {cI cL : ClassId} {ad zz : Nat → Nat} (C0 : lw_At p s m meth c b L xs) (hJ : jD ad) (hA : ∀ q, jA ad q → s.heap.size ≤ q) (hK : jK D cI cL s) (hZ : jZ zz (fun q : Nat => s.heap.size ≤ q) s s.heap) {x0 : Int32} (hx0 : 0 ≤ x0.toInt) (hxL : x0.toInt + 6 ≤ (L : Int)) (hL : L ≤ 384) {σ : Nat → Nat → Int32} {τ : Nat → Nat → Int64} {H : Heap} {locs : List Loc} (hS : va_S (fun q : Nat => s.heap.size ≤ q) s.heap H locs) {ls : Array Slot} (hAll : jAll σ τ) (hP : jH D cI cL ad σ τ H) (hl : lv_has ls 4 [(3, .int x0), (2, .ref (ad 55)), (1, .ref (ad 0)), (0, .ref b)]) (ih : ∀ (x1 : Int32) (σ : Nat → Nat → Int32) (τ : Nat → Nat → Int64) (H : Heap) (locs : List Loc) (ls : Array Slot), x1.toInt = x0.toInt + 6 → jAll σ τ → jH D cI cL ad σ τ H → va_S (fun q : Nat => s.heap.size ≤ q) s.heap H locs → lv_has ls 4 [(3, .int x1), (2, .ref (ad 55)), (1, .ref (ad 0)), (0, .ref b)] → W p l e room_1 s m #[Value.ref b] below meth c H locs 90 348600 (lw_Z below #[Value.ref b] s) (F0 m 18 ls [])) : W p l e room_1 s m #[Value.ref b] below meth c H locs 90 348600 (lw_Z below #[Value.ref b] s) (F0 m 394 ls []) := by
  obtain ⟨hx, hb, hr, hml, hown, hts0, hX, hbl, hlocks, hgv⟩ := C0
  have hts : ∀ w ∈ wsL_law, w.before #[Value.ref b] s = true := fun w h => hts0 w (wsL_law_in w h)
  have hbA : ¬ (fun q : Nat => s.heap.size ≤ q) b := Nat.not_le.mpr hbl
  have hown : s.vm.findClass RL = some m.cls := hown
  obtain ⟨hI2, hI9, hI12, hI16, hI18, hI22, hI31, hI38, hI43, hI47, hI50, hI101, hI102, hI103, hI104, hI105, hI106, hI107, hI109, hI110, hI111, hI119, hs_jKept, hs_jBook, ht0, ht1, ht2, ht3, hr0, hr1⟩ := hAll
  have hL9 : (L : Int) ≤ 384 := by omega
  obtain ⟨i1, w2, w3⟩ : (0 ≤ (σ 9 0).toInt ∧ (σ 9 0).toInt ≤ 80) ∧ (∀ k : Nat, k < 80 → 0 ≤ (σ 10 k).toInt ∧ (σ 10 k).toInt ≤ 255) ∧ (∀ k : Nat, k < 8 → 0 ≤ (σ 11 k).toInt ∧ (σ 11 k).toInt ≤ 3) := id hI9
  obtain ⟨i4, i5, i6, w7⟩ : (1 ≤ (σ 16 0).toInt ∧ (σ 16 0).toInt ≤ 8) ∧ (1 ≤ (σ 16 1).toInt ∧ (σ 16 1).toInt ≤ 12) ∧ (0 ≤ (σ 16 2).toInt ∧ (σ 16 2).toInt ≤ 999) ∧ (∀ k : Nat, k < 8 → 0 ≤ (σ 17 k).toInt ∧ (σ 17 k).toInt ≤ 3) := id hI16
  obtain ⟨i8, i9, i10, w11, w12⟩ : (1 ≤ (σ 55 10).toInt ∧ (σ 55 10).toInt ≤ 8) ∧ (1 ≤ (σ 55 12).toInt ∧ (σ 55 12).toInt ≤ 12) ∧ (0 ≤ (σ 55 13).toInt ∧ (σ 55 13).toInt ≤ 999) ∧ (∀ k : Nat, k < 8 → 0 ≤ (σ 62 k).toInt ∧ (σ 62 k).toInt ≤ 3) ∧ (∀ k : Nat, k < 8 → 0 ≤ (σ 67 k).toInt ∧ (σ 67 k).toInt ≤ 3) := id hI104
  obtain ⟨i13, w14⟩ : (0 ≤ (σ 55 15).toInt ∧ (σ 55 15).toInt ≤ 80) ∧ (∀ k : Nat, k < 2 → (-1) ≤ (σ 65 k).toInt ∧ (σ 65 k).toInt ≤ 80) := id hI105
  refine lv_aload_n hx hb dL_law_394 rfl (lv_at hl 2 rfl) ?_
  refine lv_aload_n hx hb dL_law_395 rfl (lv_at hl 3 rfl) ?_
  refine lv_iload_n hx hb dL_law_396 rfl (lv_at hl 0 rfl) ?_
  refine lv_iconst (v := 1) hx hb dL_law_397 (of_decide_eq_true rfl) ?_
  have g15 := jrg (rfl : x0.toInt = x0.toInt)
  refine lv_iadd hx hb dL_law_398 ?_
  refine lv_topi (fun x16 ex16 => ?_)
  exact by
   have tx16 : x16.toInt = x0.toInt + 1 := (jadd ex16 rfl jz_1 (by omega) (by omega)).trans (by omega)
   refine va_sld hx hb hX hbl hbA hS (jin tx16 (by omega) (by omega)) dL_law_399 ?_
   have g17 := jrg (rfl : (xs x16.toNatClampNeg).toInt = (xs x16.toNatClampNeg).toInt)
   refine jcallV (As := [.int (xs x16.toNatClampNeg)]) (rest := []) ⟨hx, hb, hml, hown, hts⟩ hK hP hA hS hZ (c_X11_text l D cI cL ad zz hJ σ τ (xs x16.toNatClampNeg) ((xs x16.toNatClampNeg).toInt) rfl hI9 hI12 hI18 hI22) cw_RL_41 (jc_0 cI cL ad σ τ) rfl ⟨Nat.le_of_ble_eq_true rfl, Nat.le_of_ble_eq_true rfl⟩ rfl rfl rfl hl.1 rfl (Nat.le_of_ble_eq_true rfl) dL_law_400 ⟨Nat.le_of_ble_eq_true rfl, Nat.le_of_ble_eq_true rfl⟩ (fun r19 σ18 τ18 H locs h18 hP hS => ?_)
   obtain ⟨rfl, f20, f21, f22, f23, f24, f25, I26, I27, I28, I29, h18⟩ := h18
   obtain ⟨i31, w32, w33⟩ : (0 ≤ (σ18 9 0).toInt ∧ (σ18 9 0).toInt ≤ 80) ∧ (∀ k : Nat, k < 80 → 0 ≤ (σ18 10 k).toInt ∧ (σ18 10 k).toInt ≤ 255) ∧ (∀ k : Nat, k < 8 → 0 ≤ (σ18 11 k).toInt ∧ (σ18 11 k).toInt ≤ 3) := id I26
   obtain ⟨k34, h18⟩ := h18
   refine lv_pop hx hb dL_law_403 rfl ?_
   refine lv_aload_n hx hb dL_law_404 rfl (lv_at hl 1 rfl) ?_
   exact by
    refine lv_aload_n hx hb dL_law_405 rfl (lv_at hl 3 rfl) ?_
    refine lv_iload_n hx hb dL_law_406 rfl (lv_at hl 0 rfl) ?_
    refine lv_iconst (v := 1) hx hb dL_law_407 (of_decide_eq_true rfl) ?_
    refine lv_iadd hx hb dL_law_408 ?_
    refine jtopr ex16.symm ?_
    refine va_sld hx hb hX hbl hbA hS (jin tx16 (by omega) (by omega)) dL_law_409 ?_
    have I35 : jI105 σ18 := jI105_fr (congrFun (f20 55 (of_decide_eq_true rfl)) 15) (f20 65 (of_decide_eq_true rfl)) hI105
    have z36 : (σ18 55 15).toInt = (σ 55 15).toInt := (congrArg Int32.toInt (show σ18 55 15 = (σ 55 15) from (congrFun (f20 55 (of_decide_eq_true rfl)) 15)))
    refine jcallV (As := [.int (xs x16.toNatClampNeg)]) (rest := []) ⟨hx, hb, hml, hown, hts⟩ hK hP hA hS hZ (c_X12_text l D cI cL ad zz hJ σ18 τ (xs x16.toNatClampNeg) ((xs x16.toNatClampNeg).toInt) rfl I35) cw_RL_44 (jc_55 cI cL ad σ18 τ) rfl ⟨Nat.le_of_ble_eq_true rfl, Nat.le_of_ble_eq_true rfl⟩ rfl rfl rfl hl.1 rfl (Nat.le_of_ble_eq_true rfl) dL_law_410 ⟨Nat.le_of_ble_eq_true rfl, Nat.le_of_ble_eq_true rfl⟩ (fun r38 σ37 τ37 H locs h37 hP hS => ?_)
    exact by
     obtain ⟨rfl, f39, f40, I41, h37⟩ := h37
     obtain ⟨i43, w44⟩ : (0 ≤ (σ37 55 15).toInt ∧ (σ37 55 15).toInt ≤ 80) ∧ (∀ k : Nat, k < 2 → (-1) ≤ (σ37 65 k).toInt ∧ (σ37 65 k).toInt ≤ 80) := id I41
     obtain ⟨k45, h37⟩ := h37
     refine lv_pop hx hb dL_law_413 rfl ?_
     refine lv_goto (tgt := 1357) hx hb dL_law_414 (of_decide_eq_true rfl) ?_
     obtain ⟨x46, ex46⟩ : ∃ y : Int32, y = x0 + 6 := ⟨_, rfl⟩
     have tx46 : x46.toInt = x0.toInt + 6 := (jadd ex46 rfl jz_6 (by omega) (by omega)).trans (by omega)
     refine lv_iinc (v := x46) (lv' := [(3, .int x46), (2, .ref (ad 55)), (1, .ref (ad 0)), (0, .ref b)]) hx hb dL_law_1357 hl (k := 0) rfl (by rw [ex46]; rfl) (of_decide_eq_true rfl) rfl (fun ls hl => ?_)
     refine lv_goto (tgt := 18) hx hb dL_law_1360 (of_decide_eq_true rfl) ?_
     exact by
      have I47 : jI2 σ37 := jI2_fr ((congrFun (f39 2 (of_decide_eq_true rfl)) 0).trans (congrFun (f20 2 (of_decide_eq_true rfl)) 0)) ((congrFun (f39 2 (of_decide_eq_true rfl)) 1).trans (congrFun (f20 2 (of_decide_eq_true rfl)) 1)) ((congrFun (f39 2 (of_decide_eq_true rfl)) 2).trans (congrFun (f20 2 (of_decide_eq_true rfl)) 2)) ((congrFun (f39 2 (of_decide_eq_true rfl)) 3).trans (congrFun (f20 2 (of_decide_eq_true rfl)) 3)) ((f39 6 (of_decide_eq_true rfl)).trans (f20 6 (of_decide_eq_true rfl))) hI2
      have I48 : jI9 σ37 := jI9_fr (congrFun (f39 9 (of_decide_eq_true rfl)) 0) (f39 10 (of_decide_eq_true rfl)) (f39 11 (of_decide_eq_true rfl)) I26
      have I49 : jI12 σ37 := jI12_fr (congrFun (f39 12 (of_decide_eq_true rfl)) 0) (f39 13 (of_decide_eq_true rfl)) I27
      have I50 : jI16 σ37 := jI16_fr ((congrFun (f39 16 (of_decide_eq_true rfl)) 0).trans (congrFun (f20 16 (of_decide_eq_true rfl)) 0)) ((congrFun (f39 16 (of_decide_eq_true rfl)) 1).trans (congrFun (f20 16 (of_decide_eq_true rfl)) 1)) ((congrFun (f39 16 (of_decide_eq_true rfl)) 2).trans (congrFun (f20 16 (of_decide_eq_true rfl)) 2)) ((f39 17 (of_decide_eq_true rfl)).trans (f20 17 (of_decide_eq_true rfl))) hI16
      have I51 : jI18 σ37 := jI18_fr (congrFun (f39 18 (of_decide_eq_true rfl)) 0) (f39 19 (of_decide_eq_true rfl)) I28
      have I52 : jI22 σ37 := jI22_fr (congrFun (f39 22 (of_decide_eq_true rfl)) 0) (f39 23 (of_decide_eq_true rfl)) I29
      have I53 : jI31 σ37 := jI31_fr ((congrFun (f39 31 (of_decide_eq_true rfl)) 8).trans (congrFun (f20 31 (of_decide_eq_true rfl)) 8)) ((f39 33 (of_decide_eq_true rfl)).trans (f20 33 (of_decide_eq_true rfl))) ((f39 36 (of_decide_eq_true rfl)).trans (f20 36 (of_decide_eq_true rfl))) hI31
      have I54 : jI38 σ37 := jI38_fr ((congrFun (f39 38 (of_decide_eq_true rfl)) 0).trans (congrFun (f20 38 (of_decide_eq_true rfl)) 0)) ((congrFun (f39 38 (of_decide_eq_true rfl)) 1).trans (congrFun (f20 38 (of_decide_eq_true rfl)) 1)) ((f39 39 (of_decide_eq_true rfl)).trans (f20 39 (of_decide_eq_true rfl))) hI38
      have I55 : jI43 σ37 := jI43_fr ((congrFun (f39 43 (of_decide_eq_true rfl)) 8).trans (congrFun (f20 43 (of_decide_eq_true rfl)) 8)) hI43
      have I56 : jI47 σ37 := jI47_fr ((congrFun (f39 47 (of_decide_eq_true rfl)) 0).trans (congrFun (f20 47 (of_decide_eq_true rfl)) 0)) ((f39 48 (of_decide_eq_true rfl)).trans (f20 48 (of_decide_eq_true rfl))) ((f39 49 (of_decide_eq_true rfl)).trans (f20 49 (of_decide_eq_true rfl))) hI47
      have I57 : jI50 σ37 := jI50_fr ((f39 52 (of_decide_eq_true rfl)).trans (f20 52 (of_decide_eq_true rfl))) hI50
      have I58 : jI101 σ37 := jI101_fr ((f40 4 (of_decide_eq_true rfl)).trans (congrFun (f20 55 (of_decide_eq_true rfl)) 4)) ((f40 5 (of_decide_eq_true rfl)).trans (congrFun (f20 55 (of_decide_eq_true rfl)) 5)) ((f39 56 (of_decide_eq_true rfl)).trans (f20 56 (of_decide_eq_true rfl))) ((f39 57 (of_decide_eq_true rfl)).trans (f20 57 (of_decide_eq_true rfl))) ((f39 58 (of_decide_eq_true rfl)).trans (f20 58 (of_decide_eq_true rfl))) ((f39 59 (of_decide_eq_true rfl)).trans (f20 59 (of_decide_eq_true rfl))) hI101
      have I59 : jI102 σ37 := jI102_fr ((f40 6 (of_decide_eq_true rfl)).trans (congrFun (f20 55 (of_decide_eq_true rfl)) 6)) ((f39 60 (of_decide_eq_true rfl)).trans (f20 60 (of_decide_eq_true rfl))) ((f39 61 (of_decide_eq_true rfl)).trans (f20 61 (of_decide_eq_true rfl))) hI102
      have I60 : jI103 σ37 := jI103_fr ((f40 9 (of_decide_eq_true rfl)).trans (congrFun (f20 55 (of_decide_eq_true rfl)) 9)) hI103
      have I61 : jI104 σ37 := jI104_fr ((f40 10 (of_decide_eq_true rfl)).trans (congrFun (f20 55 (of_decide_eq_true rfl)) 10)) ((f40 12 (of_decide_eq_true rfl)).trans (congrFun (f20 55 (of_decide_eq_true rfl)) 12)) ((f40 13 (of_decide_eq_true rfl)).trans (congrFun (f20 55 (of_decide_eq_true rfl)) 13)) ((f39 62 (of_decide_eq_true rfl)).trans (f20 62 (of_decide_eq_true rfl))) ((f39 67 (of_decide_eq_true rfl)).trans (f20 67 (of_decide_eq_true rfl))) hI104
      have I62 : jI106 σ37 := jI106_fr ((f40 32 (of_decide_eq_true rfl)).trans (congrFun (f20 55 (of_decide_eq_true rfl)) 32)) ((f39 70 (of_decide_eq_true rfl)).trans (f20 70 (of_decide_eq_true rfl))) ((f39 71 (of_decide_eq_true rfl)).trans (f20 71 (of_decide_eq_true rfl))) ((f39 72 (of_decide_eq_true rfl)).trans (f20 72 (of_decide_eq_true rfl))) hI106
      have I63 : jI107 σ37 := jI107_fr ((f40 12 (of_decide_eq_true rfl)).trans (congrFun (f20 55 (of_decide_eq_true rfl)) 12)) ((f40 47 (of_decide_eq_true rfl)).trans (congrFun (f20 55 (of_decide_eq_true rfl)) 47)) ((f39 80 (of_decide_eq_true rfl)).trans (f20 80 (of_decide_eq_true rfl))) hI107
      have I64 : jI109 σ37 := jI109_fr ((f40 50 (of_decide_eq_true rfl)).trans (congrFun (f20 55 (of_decide_eq_true rfl)) 50)) hI109
      have I65 : jI110 σ37 := jI110_fr ((f39 86 (of_decide_eq_true rfl)).trans (f20 86 (of_decide_eq_true rfl))) ((f39 87 (of_decide_eq_true rfl)).trans (f20 87 (of_decide_eq_true rfl))) hI110
      have I66 : jI111 σ37 := jI111_fr ((f39 79 (of_decide_eq_true rfl)).trans (f20 79 (of_decide_eq_true rfl))) hI111
      have I67 : jI119 σ37 := jI119_fr ((f39 68 (of_decide_eq_true rfl)).trans (f20 68 (of_decide_eq_true rfl))) hI119
      have p68 : jKept σ37 := jKept.fr ((f39 75 (of_decide_eq_true rfl)).trans (f20 75 (of_decide_eq_true rfl))) ((f39 76 (of_decide_eq_true rfl)).trans (f20 76 (of_decide_eq_true rfl))) ((f39 77 (of_decide_eq_true rfl)).trans (f20 77 (of_decide_eq_true rfl))) hs_jKept
      have p69 : jBook σ37 := jBook.fr ((f40 47 (of_decide_eq_true rfl)).trans (congrFun (f20 55 (of_decide_eq_true rfl)) 47)) ((f40 10 (of_decide_eq_true rfl)).trans (congrFun (f20 55 (of_decide_eq_true rfl)) 10)) ((f39 81 (of_decide_eq_true rfl)).trans (f20 81 (of_decide_eq_true rfl))) hs_jBook
      have z70 : (σ37 9 0).toInt = (σ18 9 0).toInt := (congrArg Int32.toInt (show σ37 9 0 = (σ18 9 0) from (congrFun (f39 9 (of_decide_eq_true rfl)) 0)))
      have z71 : (σ37 16 0).toInt = (σ 16 0).toInt := (congrArg Int32.toInt (show σ37 16 0 = (σ 16 0) from ((congrFun (f39 16 (of_decide_eq_true rfl)) 0).trans (congrFun (f20 16 (of_decide_eq_true rfl)) 0))))
      have z72 : (σ37 55 10).toInt = (σ 55 10).toInt := (congrArg Int32.toInt (show σ37 55 10 = (σ 55 10) from ((f40 10 (of_decide_eq_true rfl)).trans (congrFun (f20 55 (of_decide_eq_true rfl)) 10))))
      have z73 : (σ37 16 1).toInt = (σ 16 1).toInt := (congrArg Int32.toInt (show σ37 16 1 = (σ 16 1) from ((congrFun (f39 16 (of_decide_eq_true rfl)) 1).trans (congrFun (f20 16 (of_decide_eq_true rfl)) 1))))
      have z74 : (σ37 55 12).toInt = (σ 55 12).toInt := (congrArg Int32.toInt (show σ37 55 12 = (σ 55 12) from ((f40 12 (of_decide_eq_true rfl)).trans (congrFun (f20 55 (of_decide_eq_true rfl)) 12))))
      have z75 : (σ37 16 2).toInt = (σ 16 2).toInt := (congrArg Int32.toInt (show σ37 16 2 = (σ 16 2) from ((congrFun (f39 16 (of_decide_eq_true rfl)) 2).trans (congrFun (f20 16 (of_decide_eq_true rfl)) 2))))
      have z76 : (σ37 55 13).toInt = (σ 55 13).toInt := (congrArg Int32.toInt (show σ37 55 13 = (σ 55 13) from ((f40 13 (of_decide_eq_true rfl)).trans (congrFun (f20 55 (of_decide_eq_true rfl)) 13))))
      exact by exact ih x46 σ37 τ _ _ ls (by have h9 := tx46; omega) ⟨I47, I48, I49, I50, I51, I52, I53, I54, I55, I56, I57, I58, I59, I60, I61, I41, I62, I63, I64, I65, I66, I67, p68, p69, (by omega), (by omega), (by omega), (by omega), (show jTp (σ37 10) (σ37 63) (σ37 55 15).toInt by rw [show σ37 10 = σ 10 from ((f39 10 (of_decide_eq_true rfl)).trans (f20 10 (of_decide_eq_true rfl))), show σ37 63 = σ 63 from ((f39 63 (of_decide_eq_true rfl)).trans (f20 63 (of_decide_eq_true rfl)))]; exact hr0.le (by omega)), (show jSo (σ37 17) (σ37 62) (σ37 16 0).toInt by rw [show σ37 17 = σ 17 from ((f39 17 (of_decide_eq_true rfl)).trans (f20 17 (of_decide_eq_true rfl))), show σ37 62 = σ 62 from ((f39 62 (of_decide_eq_true rfl)).trans (f20 62 (of_decide_eq_true rfl))), show (σ37 16 0).toInt = (σ 16 0).toInt from by omega]; exact hr1)⟩ hP hS (lv_sub hl [0, 1, 2, 3] rfl)
set_option maxHeartbeats 4000000 in
set_option maxRecDepth 100000 in
theorem law_case_7 {p : Program} {e : Env} {s : State} {m : MethodId} {below : List Frame} {meth : Method} {c : Code} (l : Launch) {b L : Nat} {xs : Nat → Int32} {D : va_G} {cI cL : ClassId} {ad zz : Nat → Nat} (C0 : lw_At p s m meth c b L xs) (hJ : jD ad) (hA : ∀ q, jA ad q → s.heap.size ≤ q) (hK : jK D cI cL s) (hZ : jZ zz (fun q : Nat => s.heap.size ≤ q) s s.heap) {x0 : Int32} (hx0 : 0 ≤ x0.toInt) (hxL : x0.toInt + 6 ≤ (L : Int)) (hL : L ≤ 384) {σ : Nat → Nat → Int32} {τ : Nat → Nat → Int64} {H : Heap} {locs : List Loc} (hS : va_S (fun q : Nat => s.heap.size ≤ q) s.heap H locs) {ls : Array Slot} (hAll : jAll σ τ) (hP : jH D cI cL ad σ τ H) (hl : lv_has ls 4 [(3, .int x0), (2, .ref (ad 55)), (1, .ref (ad 0)), (0, .ref b)]) (ih : ∀ (x1 : Int32) (σ : Nat → Nat → Int32) (τ : Nat → Nat → Int64) (H : Heap) (locs : List Loc) (ls : Array Slot), x1.toInt = x0.toInt + 6 → jAll σ τ → jH D cI cL ad σ τ H → va_S (fun q : Nat => s.heap.size ≤ q) s.heap H locs → lv_has ls 4 [(3, .int x1), (2, .ref (ad 55)), (1, .ref (ad 0)), (0, .ref b)] → W p l e room_1 s m #[Value.ref b] below meth c H locs 90 348600 (lw_Z below #[Value.ref b] s) (F0 m 18 ls [])) : W p l e room_1 s m #[Value.ref b] below meth c H locs 90 348600 (lw_Z below #[Value.ref b] s) (F0 m 417 ls []) := by
  obtain ⟨hx, hb, hr, hml, hown, hts0, hX, hbl, hlocks, hgv⟩ := C0
  have hts : ∀ w ∈ wsL_law, w.before #[Value.ref b] s = true := fun w h => hts0 w (wsL_law_in w h)
  have hbA : ¬ (fun q : Nat => s.heap.size ≤ q) b := Nat.not_le.mpr hbl
  have hown : s.vm.findClass RL = some m.cls := hown
  obtain ⟨hI2, hI9, hI12, hI16, hI18, hI22, hI31, hI38, hI43, hI47, hI50, hI101, hI102, hI103, hI104, hI105, hI106, hI107, hI109, hI110, hI111, hI119, hs_jKept, hs_jBook, ht0, ht1, ht2, ht3, hr0, hr1⟩ := hAll
  have hL9 : (L : Int) ≤ 384 := by omega
  obtain ⟨i1, w2, w3⟩ : (0 ≤ (σ 9 0).toInt ∧ (σ 9 0).toInt ≤ 80) ∧ (∀ k : Nat, k < 80 → 0 ≤ (σ 10 k).toInt ∧ (σ 10 k).toInt ≤ 255) ∧ (∀ k : Nat, k < 8 → 0 ≤ (σ 11 k).toInt ∧ (σ 11 k).toInt ≤ 3) := id hI9
  obtain ⟨i4, i5, i6, w7⟩ : (1 ≤ (σ 16 0).toInt ∧ (σ 16 0).toInt ≤ 8) ∧ (1 ≤ (σ 16 1).toInt ∧ (σ 16 1).toInt ≤ 12) ∧ (0 ≤ (σ 16 2).toInt ∧ (σ 16 2).toInt ≤ 999) ∧ (∀ k : Nat, k < 8 → 0 ≤ (σ 17 k).toInt ∧ (σ 17 k).toInt ≤ 3) := id hI16
  obtain ⟨i8, i9, i10, w11, w12⟩ : (1 ≤ (σ 55 10).toInt ∧ (σ 55 10).toInt ≤ 8) ∧ (1 ≤ (σ 55 12).toInt ∧ (σ 55 12).toInt ≤ 12) ∧ (0 ≤ (σ 55 13).toInt ∧ (σ 55 13).toInt ≤ 999) ∧ (∀ k : Nat, k < 8 → 0 ≤ (σ 62 k).toInt ∧ (σ 62 k).toInt ≤ 3) ∧ (∀ k : Nat, k < 8 → 0 ≤ (σ 67 k).toInt ∧ (σ 67 k).toInt ≤ 3) := id hI104
  obtain ⟨i13, w14⟩ : (0 ≤ (σ 55 15).toInt ∧ (σ 55 15).toInt ≤ 80) ∧ (∀ k : Nat, k < 2 → (-1) ≤ (σ 65 k).toInt ∧ (σ 65 k).toInt ≤ 80) := id hI105
  refine lv_aload_n hx hb dL_law_417 rfl (lv_at hl 2 rfl) ?_
  refine lv_aload_n hx hb dL_law_418 rfl (lv_at hl 3 rfl) ?_
  refine lv_iload_n hx hb dL_law_419 rfl (lv_at hl 0 rfl) ?_
  refine lv_iconst (v := 1) hx hb dL_law_420 (of_decide_eq_true rfl) ?_
  have g15 := jrg (rfl : x0.toInt = x0.toInt)
  refine lv_iadd hx hb dL_law_421 ?_
  refine lv_topi (fun x16 ex16 => ?_)
  exact by
   have tx16 : x16.toInt = x0.toInt + 1 := (jadd ex16 rfl jz_1 (by omega) (by omega)).trans (by omega)
   refine va_sld hx hb hX hbl hbA hS (jin tx16 (by omega) (by omega)) dL_law_422 ?_
   have g17 := jrg (rfl : (xs x16.toNatClampNeg).toInt = (xs x16.toNatClampNeg).toInt)
   refine jcallV (As := [.int (xs x16.toNatClampNeg)]) (rest := []) ⟨hx, hb, hml, hown, hts⟩ hK hP hA hS hZ (c_X11_of l D cI cL ad zz hJ σ τ (xs x16.toNatClampNeg) ((xs x16.toNatClampNeg).toInt) rfl hI16) cw_RL_45 (jc_0 cI cL ad σ τ) rfl ⟨Nat.le_of_ble_eq_true rfl, Nat.le_of_ble_eq_true rfl⟩ rfl rfl rfl hl.1 rfl (Nat.le_of_ble_eq_true rfl) dL_law_423 ⟨Nat.le_of_ble_eq_true rfl, Nat.le_of_ble_eq_true rfl⟩ (fun r19 σ18 τ18 H locs h18 hP hS => ?_)
   obtain ⟨⟨rfl, rfl⟩, h18⟩ := h18
   rcases h18 with h20 | h21 | h22 | h23 | h24
   · obtain ⟨q27, k25, k26⟩ := h20
     refine lv_aload_n hx hb dL_law_426 rfl (lv_at hl 1 rfl) ?_
     refine lv_aload_n hx hb dL_law_427 rfl (lv_at hl 3 rfl) ?_
     exact by
      refine lv_iload_n hx hb dL_law_428 rfl (lv_at hl 0 rfl) ?_
      refine lv_iconst (v := 1) hx hb dL_law_429 (of_decide_eq_true rfl) ?_
      refine lv_iadd hx hb dL_law_430 ?_
      refine jtopr ex16.symm ?_
      refine va_sld hx hb hX hbl hbA hS (jin tx16 (by omega) (by omega)) dL_law_431 ?_
      refine jcallV (As := [.int (xs x16.toNatClampNeg)]) (rest := [.int r19]) ⟨hx, hb, hml, hown, hts⟩ hK hP hA hS hZ (c_X12_of l D cI cL ad zz hJ σ τ (xs x16.toNatClampNeg) ((xs x16.toNatClampNeg).toInt) rfl hI104 hI107) cw_RL_48 (jc_55 cI cL ad σ τ) rfl ⟨Nat.le_of_ble_eq_true rfl, Nat.le_of_ble_eq_true rfl⟩ rfl rfl rfl hl.1 rfl (Nat.le_of_ble_eq_true rfl) dL_law_432 ⟨Nat.le_of_ble_eq_true rfl, Nat.le_of_ble_eq_true rfl⟩ (fun r29 σ28 τ28 H locs h28 hP hS => ?_)
      obtain ⟨⟨rfl, rfl⟩, h28⟩ := h28
      rcases h28 with h30 | h31 | h32 | h33 | h34
      · obtain ⟨q37, k35, k36⟩ := h30
        exact by
         refine lv_icmp_eq (tgt := 1357) hx hb dL_law_435 (of_decide_eq_true rfl) (fun _ => ?_) (fun c => absurd (jsame (rfl : r19.toInt = r19.toInt) (rfl : r29.toInt = r29.toInt) (by omega)) c)
         obtain ⟨x38, ex38⟩ : ∃ y : Int32, y = x0 + 6 := ⟨_, rfl⟩
         have tx38 : x38.toInt = x0.toInt + 6 := (jadd ex38 rfl jz_6 (by omega) (by omega)).trans (by omega)
         refine lv_iinc (v := x38) (lv' := [(3, .int x38), (2, .ref (ad 55)), (1, .ref (ad 0)), (0, .ref b)]) hx hb dL_law_1357 hl (k := 0) rfl (by rw [ex38]; rfl) (of_decide_eq_true rfl) rfl (fun ls hl => ?_)
         refine lv_goto (tgt := 18) hx hb dL_law_1360 (of_decide_eq_true rfl) ?_
         exact by exact ih x38 σ τ _ _ ls (by have h9 := tx38; omega) ⟨hI2, hI9, hI12, hI16, hI18, hI22, hI31, hI38, hI43, hI47, hI50, hI101, hI102, hI103, hI104, hI105, hI106, hI107, hI109, hI110, hI111, hI119, hs_jKept, hs_jBook, (by omega), (by omega), (by omega), (by omega), hr0, hr1⟩ hP hS (lv_sub hl [0, 1, 2, 3] rfl)
      · obtain ⟨q41, k39, k40⟩ := h31
        exact absurd (by omega : False) id
      · obtain ⟨q44, k42, k43⟩ := h32
        exact absurd (by omega : False) id
      · exact by
         obtain ⟨q48, k45, k46, k47⟩ := h33
         exact absurd (by omega : False) id
      · obtain ⟨q50, k49⟩ := h34
        exact absurd (by omega : False) id
   · obtain ⟨q53, k51, k52⟩ := h21
     refine lv_aload_n hx hb dL_law_426 rfl (lv_at hl 1 rfl) ?_
     refine lv_aload_n hx hb dL_law_427 rfl (lv_at hl 3 rfl) ?_
     refine lv_iload_n hx hb dL_law_428 rfl (lv_at hl 0 rfl) ?_
     refine lv_iconst (v := 1) hx hb dL_law_429 (of_decide_eq_true rfl) ?_
     refine lv_iadd hx hb dL_law_430 ?_
     refine jtopr ex16.symm ?_
     exact by
      refine va_sld hx hb hX hbl hbA hS (jin tx16 (by omega) (by omega)) dL_law_431 ?_
      refine jcallV (As := [.int (xs x16.toNatClampNeg)]) (rest := [.int r19]) ⟨hx, hb, hml, hown, hts⟩ hK hP hA hS hZ (c_X12_of l D cI cL ad zz hJ σ τ (xs x16.toNatClampNeg) ((xs x16.toNatClampNeg).toInt) rfl hI104 hI107) cw_RL_48 (jc_55 cI cL ad σ τ) rfl ⟨Nat.le_of_ble_eq_true rfl, Nat.le_of_ble_eq_true rfl⟩ rfl rfl rfl hl.1 rfl (Nat.le_of_ble_eq_true rfl) dL_law_432 ⟨Nat.le_of_ble_eq_true rfl, Nat.le_of_ble_eq_true rfl⟩ (fun r55 σ54 τ54 H locs h54 hP hS => ?_)
      obtain ⟨⟨rfl, rfl⟩, h54⟩ := h54
      rcases h54 with h56 | h57 | h58 | h59 | h60
      · obtain ⟨q63, k61, k62⟩ := h56
        exact absurd (by omega : False) id
      · obtain ⟨q66, k64, k65⟩ := h57
        refine lv_icmp_eq (tgt := 1357) hx hb dL_law_435 (of_decide_eq_true rfl) (fun _ => ?_) (fun c => absurd (jsame (rfl : r19.toInt = r19.toInt) (rfl : r55.toInt = r55.toInt) (by omega)) c)
        obtain ⟨x67, ex67⟩ : ∃ y : Int32, y = x0 + 6 := ⟨_, rfl⟩
        exact by
         have tx67 : x67.toInt = x0.toInt + 6 := (jadd ex67 rfl jz_6 (by omega) (by omega)).trans (by omega)
         refine lv_iinc (v := x67) (lv' := [(3, .int x67), (2, .ref (ad 55)), (1, .ref (ad 0)), (0, .ref b)]) hx hb dL_law_1357 hl (k := 0) rfl (by rw [ex67]; rfl) (of_decide_eq_true rfl) rfl (fun ls hl => ?_)
         refine lv_goto (tgt := 18) hx hb dL_law_1360 (of_decide_eq_true rfl) ?_
         exact by exact ih x67 σ τ _ _ ls (by have h9 := tx67; omega) ⟨hI2, hI9, hI12, hI16, hI18, hI22, hI31, hI38, hI43, hI47, hI50, hI101, hI102, hI103, hI104, hI105, hI106, hI107, hI109, hI110, hI111, hI119, hs_jKept, hs_jBook, (by omega), (by omega), (by omega), (by omega), hr0, hr1⟩ hP hS (lv_sub hl [0, 1, 2, 3] rfl)
      · obtain ⟨q70, k68, k69⟩ := h58
        exact absurd (by omega : False) id
      · obtain ⟨q74, k71, k72, k73⟩ := h59
        exact absurd (by omega : False) id
      · obtain ⟨q76, k75⟩ := h60
        exact absurd (by omega : False) id
   · exact by
      obtain ⟨q79, k77, k78⟩ := h22
      refine lv_aload_n hx hb dL_law_426 rfl (lv_at hl 1 rfl) ?_
      refine lv_aload_n hx hb dL_law_427 rfl (lv_at hl 3 rfl) ?_
      refine lv_iload_n hx hb dL_law_428 rfl (lv_at hl 0 rfl) ?_
      refine lv_iconst (v := 1) hx hb dL_law_429 (of_decide_eq_true rfl) ?_
      refine lv_iadd hx hb dL_law_430 ?_
      refine jtopr ex16.symm ?_
      refine va_sld hx hb hX hbl hbA hS (jin tx16 (by omega) (by omega)) dL_law_431 ?_
      refine jcallV (As := [.int (xs x16.toNatClampNeg)]) (rest := [.int r19]) ⟨hx, hb, hml, hown, hts⟩ hK hP hA hS hZ (c_X12_of l D cI cL ad zz hJ σ τ (xs x16.toNatClampNeg) ((xs x16.toNatClampNeg).toInt) rfl hI104 hI107) cw_RL_48 (jc_55 cI cL ad σ τ) rfl ⟨Nat.le_of_ble_eq_true rfl, Nat.le_of_ble_eq_true rfl⟩ rfl rfl rfl hl.1 rfl (Nat.le_of_ble_eq_true rfl) dL_law_432 ⟨Nat.le_of_ble_eq_true rfl, Nat.le_of_ble_eq_true rfl⟩ (fun r81 σ80 τ80 H locs h80 hP hS => ?_)
      exact by
       obtain ⟨⟨rfl, rfl⟩, h80⟩ := h80
       rcases h80 with h82 | h83 | h84 | h85 | h86
       · obtain ⟨q89, k87, k88⟩ := h82
         exact absurd (by omega : False) id
       · obtain ⟨q92, k90, k91⟩ := h83
         exact absurd (by omega : False) id
       · obtain ⟨q95, k93, k94⟩ := h84
         refine lv_icmp_eq (tgt := 1357) hx hb dL_law_435 (of_decide_eq_true rfl) (fun _ => ?_) (fun c => absurd (jsame (rfl : r19.toInt = r19.toInt) (rfl : r81.toInt = r81.toInt) (by omega)) c)
         obtain ⟨x96, ex96⟩ : ∃ y : Int32, y = x0 + 6 := ⟨_, rfl⟩
         exact by
          have tx96 : x96.toInt = x0.toInt + 6 := (jadd ex96 rfl jz_6 (by omega) (by omega)).trans (by omega)
          refine lv_iinc (v := x96) (lv' := [(3, .int x96), (2, .ref (ad 55)), (1, .ref (ad 0)), (0, .ref b)]) hx hb dL_law_1357 hl (k := 0) rfl (by rw [ex96]; rfl) (of_decide_eq_true rfl) rfl (fun ls hl => ?_)
          refine lv_goto (tgt := 18) hx hb dL_law_1360 (of_decide_eq_true rfl) ?_
          exact by exact ih x96 σ τ _ _ ls (by have h9 := tx96; omega) ⟨hI2, hI9, hI12, hI16, hI18, hI22, hI31, hI38, hI43, hI47, hI50, hI101, hI102, hI103, hI104, hI105, hI106, hI107, hI109, hI110, hI111, hI119, hs_jKept, hs_jBook, (by omega), (by omega), (by omega), (by omega), hr0, hr1⟩ hP hS (lv_sub hl [0, 1, 2, 3] rfl)
       · obtain ⟨q100, k97, k98, k99⟩ := h85
         exact absurd (by omega : False) id
       · obtain ⟨q102, k101⟩ := h86
         exact absurd (by omega : False) id
   · obtain ⟨q106, k103, k104, k105⟩ := h23
     exact by
      refine lv_aload_n hx hb dL_law_426 rfl (lv_at hl 1 rfl) ?_
      refine lv_aload_n hx hb dL_law_427 rfl (lv_at hl 3 rfl) ?_
      refine lv_iload_n hx hb dL_law_428 rfl (lv_at hl 0 rfl) ?_
      refine lv_iconst (v := 1) hx hb dL_law_429 (of_decide_eq_true rfl) ?_
      refine lv_iadd hx hb dL_law_430 ?_
      refine jtopr ex16.symm ?_
      refine va_sld hx hb hX hbl hbA hS (jin tx16 (by omega) (by omega)) dL_law_431 ?_
      refine jcallV (As := [.int (xs x16.toNatClampNeg)]) (rest := [.int r19]) ⟨hx, hb, hml, hown, hts⟩ hK hP hA hS hZ (c_X12_of l D cI cL ad zz hJ σ τ (xs x16.toNatClampNeg) ((xs x16.toNatClampNeg).toInt) rfl hI104 hI107) cw_RL_48 (jc_55 cI cL ad σ τ) rfl ⟨Nat.le_of_ble_eq_true rfl, Nat.le_of_ble_eq_true rfl⟩ rfl rfl rfl hl.1 rfl (Nat.le_of_ble_eq_true rfl) dL_law_432 ⟨Nat.le_of_ble_eq_true rfl, Nat.le_of_ble_eq_true rfl⟩ (fun r108 σ107 τ107 H locs h107 hP hS => ?_)
      obtain ⟨⟨rfl, rfl⟩, h107⟩ := h107
      exact by
       rcases h107 with h109 | h110 | h111 | h112 | h113
       · obtain ⟨q116, k114, k115⟩ := h109
         exact absurd (by omega : False) id
       · obtain ⟨q119, k117, k118⟩ := h110
         exact absurd (by omega : False) id
       · obtain ⟨q122, k120, k121⟩ := h111
         exact absurd (by omega : False) id
       · obtain ⟨q126, k123, k124, k125⟩ := h112
         refine lv_icmp_eq (tgt := 1357) hx hb dL_law_435 (of_decide_eq_true rfl) (fun _ => ?_) (fun c => absurd ((k105.trans ((hr1 _ (by omega)).trans k125.symm))) c)
         exact by
          obtain ⟨x127, ex127⟩ : ∃ y : Int32, y = x0 + 6 := ⟨_, rfl⟩
          have tx127 : x127.toInt = x0.toInt + 6 := (jadd ex127 rfl jz_6 (by omega) (by omega)).trans (by omega)
          refine lv_iinc (v := x127) (lv' := [(3, .int x127), (2, .ref (ad 55)), (1, .ref (ad 0)), (0, .ref b)]) hx hb dL_law_1357 hl (k := 0) rfl (by rw [ex127]; rfl) (of_decide_eq_true rfl) rfl (fun ls hl => ?_)
          refine lv_goto (tgt := 18) hx hb dL_law_1360 (of_decide_eq_true rfl) ?_
          exact by exact ih x127 σ τ _ _ ls (by have h9 := tx127; omega) ⟨hI2, hI9, hI12, hI16, hI18, hI22, hI31, hI38, hI43, hI47, hI50, hI101, hI102, hI103, hI104, hI105, hI106, hI107, hI109, hI110, hI111, hI119, hs_jKept, hs_jBook, (by omega), (by omega), (by omega), (by omega), hr0, hr1⟩ hP hS (lv_sub hl [0, 1, 2, 3] rfl)
       · obtain ⟨q129, k128⟩ := h113
         exact absurd (by omega : False) id
   · obtain ⟨q131, k130⟩ := h24
     have q131 := q131.symm
     exact by
      subst q131
      refine lv_aload_n hx hb dL_law_426 rfl (lv_at hl 1 rfl) ?_
      refine lv_aload_n hx hb dL_law_427 rfl (lv_at hl 3 rfl) ?_
      refine lv_iload_n hx hb dL_law_428 rfl (lv_at hl 0 rfl) ?_
      refine lv_iconst (v := 1) hx hb dL_law_429 (of_decide_eq_true rfl) ?_
      refine lv_iadd hx hb dL_law_430 ?_
      refine jtopr ex16.symm ?_
      refine va_sld hx hb hX hbl hbA hS (jin tx16 (by omega) (by omega)) dL_law_431 ?_
      refine jcallV (As := [.int (xs x16.toNatClampNeg)]) (rest := [.int (-1)]) ⟨hx, hb, hml, hown, hts⟩ hK hP hA hS hZ (c_X12_of l D cI cL ad zz hJ σ τ (xs x16.toNatClampNeg) ((xs x16.toNatClampNeg).toInt) rfl hI104 hI107) cw_RL_48 (jc_55 cI cL ad σ τ) rfl ⟨Nat.le_of_ble_eq_true rfl, Nat.le_of_ble_eq_true rfl⟩ rfl rfl rfl hl.1 rfl (Nat.le_of_ble_eq_true rfl) dL_law_432 ⟨Nat.le_of_ble_eq_true rfl, Nat.le_of_ble_eq_true rfl⟩ (fun r133 σ132 τ132 H locs h132 hP hS => ?_)
      exact by
       obtain ⟨⟨rfl, rfl⟩, h132⟩ := h132
       rcases h132 with h134 | h135 | h136 | h137 | h138
       · obtain ⟨q141, k139, k140⟩ := h134
         exact absurd (by omega : False) id
       · obtain ⟨q144, k142, k143⟩ := h135
         exact absurd (by omega : False) id
       · obtain ⟨q147, k145, k146⟩ := h136
         exact absurd (by omega : False) id
       · obtain ⟨q151, k148, k149, k150⟩ := h137
         exact absurd (by omega : False) id
       · obtain ⟨q153, k152⟩ := h138
         have q153 := q153.symm
         subst q153
         refine lv_icmp_eq (tgt := 1357) hx hb dL_law_435 (of_decide_eq_true rfl) (fun _ => ?_) (fun c => absurd (rfl) c)
         obtain ⟨x154, ex154⟩ : ∃ y : Int32, y = x0 + 6 := ⟨_, rfl⟩
         exact by
          have tx154 : x154.toInt = x0.toInt + 6 := (jadd ex154 rfl jz_6 (by omega) (by omega)).trans (by omega)
          refine lv_iinc (v := x154) (lv' := [(3, .int x154), (2, .ref (ad 55)), (1, .ref (ad 0)), (0, .ref b)]) hx hb dL_law_1357 hl (k := 0) rfl (by rw [ex154]; rfl) (of_decide_eq_true rfl) rfl (fun ls hl => ?_)
          refine lv_goto (tgt := 18) hx hb dL_law_1360 (of_decide_eq_true rfl) ?_
          exact by exact ih x154 σ τ _ _ ls (by have h9 := tx154; omega) ⟨hI2, hI9, hI12, hI16, hI18, hI22, hI31, hI38, hI43, hI47, hI50, hI101, hI102, hI103, hI104, hI105, hI106, hI107, hI109, hI110, hI111, hI119, hs_jKept, hs_jBook, (by omega), (by omega), (by omega), (by omega), hr0, hr1⟩ hP hS (lv_sub hl [0, 1, 2, 3] rfl)
set_option maxHeartbeats 4000000 in
set_option maxRecDepth 100000 in
theorem law_case_8 {p : Program} {e : Env} {s : State} {m : MethodId} {below : List Frame} {meth : Method} {c : Code} (l : Launch) {b L : Nat} {xs : Nat → Int32} {D : va_G} {cI cL : ClassId} {ad zz : Nat → Nat} (C0 : lw_At p s m meth c b L xs) (hJ : jD ad) (hA : ∀ q, jA ad q → s.heap.size ≤ q) (hK : jK D cI cL s) (hZ : jZ zz (fun q : Nat => s.heap.size ≤ q) s s.heap) {x0 : Int32} (hx0 : 0 ≤ x0.toInt) (hxL : x0.toInt + 6 ≤ (L : Int)) (hL : L ≤ 384) {σ : Nat → Nat → Int32} {τ : Nat → Nat → Int64} {H : Heap} {locs : List Loc} (hS : va_S (fun q : Nat => s.heap.size ≤ q) s.heap H locs) {ls : Array Slot} (hAll : jAll σ τ) (hP : jH D cI cL ad σ τ H) (hl : lv_has ls 4 [(3, .int x0), (2, .ref (ad 55)), (1, .ref (ad 0)), (0, .ref b)]) (ih : ∀ (x1 : Int32) (σ : Nat → Nat → Int32) (τ : Nat → Nat → Int64) (H : Heap) (locs : List Loc) (ls : Array Slot), x1.toInt = x0.toInt + 6 → jAll σ τ → jH D cI cL ad σ τ H → va_S (fun q : Nat => s.heap.size ≤ q) s.heap H locs → lv_has ls 4 [(3, .int x1), (2, .ref (ad 55)), (1, .ref (ad 0)), (0, .ref b)] → W p l e room_1 s m #[Value.ref b] below meth c H locs 90 348600 (lw_Z below #[Value.ref b] s) (F0 m 18 ls [])) : W p l e room_1 s m #[Value.ref b] below meth c H locs 90 348600 (lw_Z below #[Value.ref b] s) (F0 m 440 ls []) := by
  obtain ⟨hx, hb, hr, hml, hown, hts0, hX, hbl, hlocks, hgv⟩ := C0
  have hts : ∀ w ∈ wsL_law, w.before #[Value.ref b] s = true := fun w h => hts0 w (wsL_law_in w h)
  have hbA : ¬ (fun q : Nat => s.heap.size ≤ q) b := Nat.not_le.mpr hbl
  have hown : s.vm.findClass RL = some m.cls := hown
  obtain ⟨hI2, hI9, hI12, hI16, hI18, hI22, hI31, hI38, hI43, hI47, hI50, hI101, hI102, hI103, hI104, hI105, hI106, hI107, hI109, hI110, hI111, hI119, hs_jKept, hs_jBook, ht0, ht1, ht2, ht3, hr0, hr1⟩ := hAll
  have hL9 : (L : Int) ≤ 384 := by omega
  obtain ⟨i1, w2, w3⟩ : (0 ≤ (σ 9 0).toInt ∧ (σ 9 0).toInt ≤ 80) ∧ (∀ k : Nat, k < 80 → 0 ≤ (σ 10 k).toInt ∧ (σ 10 k).toInt ≤ 255) ∧ (∀ k : Nat, k < 8 → 0 ≤ (σ 11 k).toInt ∧ (σ 11 k).toInt ≤ 3) := id hI9
  obtain ⟨i4, i5, i6, w7⟩ : (1 ≤ (σ 16 0).toInt ∧ (σ 16 0).toInt ≤ 8) ∧ (1 ≤ (σ 16 1).toInt ∧ (σ 16 1).toInt ≤ 12) ∧ (0 ≤ (σ 16 2).toInt ∧ (σ 16 2).toInt ≤ 999) ∧ (∀ k : Nat, k < 8 → 0 ≤ (σ 17 k).toInt ∧ (σ 17 k).toInt ≤ 3) := id hI16
  obtain ⟨i8, i9, i10, w11, w12⟩ : (1 ≤ (σ 55 10).toInt ∧ (σ 55 10).toInt ≤ 8) ∧ (1 ≤ (σ 55 12).toInt ∧ (σ 55 12).toInt ≤ 12) ∧ (0 ≤ (σ 55 13).toInt ∧ (σ 55 13).toInt ≤ 999) ∧ (∀ k : Nat, k < 8 → 0 ≤ (σ 62 k).toInt ∧ (σ 62 k).toInt ≤ 3) ∧ (∀ k : Nat, k < 8 → 0 ≤ (σ 67 k).toInt ∧ (σ 67 k).toInt ≤ 3) := id hI104
  obtain ⟨i13, w14⟩ : (0 ≤ (σ 55 15).toInt ∧ (σ 55 15).toInt ≤ 80) ∧ (∀ k : Nat, k < 2 → (-1) ≤ (σ 65 k).toInt ∧ (σ 65 k).toInt ≤ 80) := id hI105
  refine lv_aload_n hx hb dL_law_440 rfl (lv_at hl 2 rfl) ?_
  refine lv_aload_n hx hb dL_law_441 rfl (lv_at hl 3 rfl) ?_
  refine lv_iload_n hx hb dL_law_442 rfl (lv_at hl 0 rfl) ?_
  refine lv_iconst (v := 1) hx hb dL_law_443 (of_decide_eq_true rfl) ?_
  have g15 := jrg (rfl : x0.toInt = x0.toInt)
  refine lv_iadd hx hb dL_law_444 ?_
  refine lv_topi (fun x16 ex16 => ?_)
  exact by
   have tx16 : x16.toInt = x0.toInt + 1 := (jadd ex16 rfl jz_1 (by omega) (by omega)).trans (by omega)
   refine va_sld hx hb hX hbl hbA hS (jin tx16 (by omega) (by omega)) dL_law_445 ?_
   have g17 := jrg (rfl : (xs x16.toNatClampNeg).toInt = (xs x16.toNatClampNeg).toInt)
   refine lv_aload_n hx hb dL_law_446 rfl (lv_at hl 3 rfl) ?_
   refine lv_iload_n hx hb dL_law_447 rfl (lv_at hl 0 rfl) ?_
   refine lv_iconst (v := 2) hx hb dL_law_448 (of_decide_eq_true rfl) ?_
   refine lv_iadd hx hb dL_law_449 ?_
   refine lv_topi (fun x18 ex18 => ?_)
   have tx18 : x18.toInt = x0.toInt + 2 := (jadd ex18 rfl jz_2 (by omega) (by omega)).trans (by omega)
   exact by
    refine va_sld hx hb hX hbl hbA hS (jin tx18 (by omega) (by omega)) dL_law_450 ?_
    have g19 := jrg (rfl : (xs x18.toNatClampNeg).toInt = (xs x18.toNatClampNeg).toInt)
    refine lv_aload_n hx hb dL_law_451 rfl (lv_at hl 3 rfl) ?_
    refine lv_iload_n hx hb dL_law_452 rfl (lv_at hl 0 rfl) ?_
    refine lv_iconst (v := 3) hx hb dL_law_453 (of_decide_eq_true rfl) ?_
    refine lv_iadd hx hb dL_law_454 ?_
    refine lv_topi (fun x20 ex20 => ?_)
    have tx20 : x20.toInt = x0.toInt + 3 := (jadd ex20 rfl jz_3 (by omega) (by omega)).trans (by omega)
    refine va_sld hx hb hX hbl hbA hS (jin tx20 (by omega) (by omega)) dL_law_455 ?_
    exact by
     have g21 := jrg (rfl : (xs x20.toNatClampNeg).toInt = (xs x20.toNatClampNeg).toInt)
     refine jcallV (As := [.int (xs x16.toNatClampNeg), .int (xs x18.toNatClampNeg), .int (xs x20.toNatClampNeg)]) (rest := []) ⟨hx, hb, hml, hown, hts⟩ hK hP hA hS hZ (c_X11_over l D cI cL ad zz hJ σ τ (xs x16.toNatClampNeg) ((xs x16.toNatClampNeg).toInt) rfl (xs x18.toNatClampNeg) ((xs x18.toNatClampNeg).toInt) rfl (xs x20.toNatClampNeg) ((xs x20.toNatClampNeg).toInt) rfl hI2 hI22) cw_RL_49 (jc_0 cI cL ad σ τ) rfl ⟨Nat.le_of_ble_eq_true rfl, Nat.le_of_ble_eq_true rfl⟩ rfl rfl rfl hl.1 rfl (Nat.le_of_ble_eq_true rfl) dL_law_456 ⟨Nat.le_of_ble_eq_true rfl, Nat.le_of_ble_eq_true rfl⟩ (fun r23 σ22 τ22 H locs h22 hP hS => ?_)
     obtain ⟨rfl, f24, h22⟩ := h22
     refine lv_pop hx hb dL_law_459 rfl ?_
     refine lv_aload_n hx hb dL_law_460 rfl (lv_at hl 1 rfl) ?_
     refine lv_aload_n hx hb dL_law_461 rfl (lv_at hl 3 rfl) ?_
     refine lv_iload_n hx hb dL_law_462 rfl (lv_at hl 0 rfl) ?_
     refine lv_iconst (v := 1) hx hb dL_law_463 (of_decide_eq_true rfl) ?_
     refine lv_iadd hx hb dL_law_464 ?_
     refine jtopr ex16.symm ?_
     exact by
      refine va_sld hx hb hX hbl hbA hS (jin tx16 (by omega) (by omega)) dL_law_465 ?_
      refine lv_aload_n hx hb dL_law_466 rfl (lv_at hl 3 rfl) ?_
      refine lv_iload_n hx hb dL_law_467 rfl (lv_at hl 0 rfl) ?_
      refine lv_iconst (v := 2) hx hb dL_law_468 (of_decide_eq_true rfl) ?_
      refine lv_iadd hx hb dL_law_469 ?_
      refine jtopr ex18.symm ?_
      refine va_sld hx hb hX hbl hbA hS (jin tx18 (by omega) (by omega)) dL_law_470 ?_
      refine lv_aload_n hx hb dL_law_471 rfl (lv_at hl 3 rfl) ?_
      refine lv_iload_n hx hb dL_law_472 rfl (lv_at hl 0 rfl) ?_
      exact by
       refine lv_iconst (v := 3) hx hb dL_law_473 (of_decide_eq_true rfl) ?_
       refine lv_iadd hx hb dL_law_474 ?_
       refine jtopr ex20.symm ?_
       refine va_sld hx hb hX hbl hbA hS (jin tx20 (by omega) (by omega)) dL_law_475 ?_
       have I26 : jI101 σ22 := jI101_fr (congrFun (f24 55 (of_decide_eq_true rfl)) 4) (congrFun (f24 55 (of_decide_eq_true rfl)) 5) (f24 56 (of_decide_eq_true rfl)) (f24 57 (of_decide_eq_true rfl)) (f24 58 (of_decide_eq_true rfl)) (f24 59 (of_decide_eq_true rfl)) hI101
       have I27 : jI102 σ22 := jI102_fr (congrFun (f24 55 (of_decide_eq_true rfl)) 6) (f24 60 (of_decide_eq_true rfl)) (f24 61 (of_decide_eq_true rfl)) hI102
       have I28 : jI103 σ22 := jI103_fr (congrFun (f24 55 (of_decide_eq_true rfl)) 9) hI103
       have I29 : jI104 σ22 := jI104_fr (congrFun (f24 55 (of_decide_eq_true rfl)) 10) (congrFun (f24 55 (of_decide_eq_true rfl)) 12) (congrFun (f24 55 (of_decide_eq_true rfl)) 13) (f24 62 (of_decide_eq_true rfl)) (f24 67 (of_decide_eq_true rfl)) hI104
       have I30 : jI105 σ22 := jI105_fr (congrFun (f24 55 (of_decide_eq_true rfl)) 15) (f24 65 (of_decide_eq_true rfl)) hI105
       exact by
        have I31 : jI119 σ22 := jI119_fr (f24 68 (of_decide_eq_true rfl)) hI119
        refine jcallV (As := [.int (xs x16.toNatClampNeg), .int (xs x18.toNatClampNeg), .int (xs x20.toNatClampNeg)]) (rest := []) ⟨hx, hb, hml, hown, hts⟩ hK hP hA hS hZ (c_X12_over l D cI cL ad zz hJ σ22 τ (xs x16.toNatClampNeg) ((xs x16.toNatClampNeg).toInt) rfl (xs x18.toNatClampNeg) ((xs x18.toNatClampNeg).toInt) rfl (xs x20.toNatClampNeg) ((xs x20.toNatClampNeg).toInt) rfl I26 I27 I28 I29 I30 I31) cw_RL_52 (jc_55 cI cL ad σ22 τ) rfl ⟨Nat.le_of_ble_eq_true rfl, Nat.le_of_ble_eq_true rfl⟩ rfl rfl rfl hl.1 rfl (Nat.le_of_ble_eq_true rfl) dL_law_476 ⟨Nat.le_of_ble_eq_true rfl, Nat.le_of_ble_eq_true rfl⟩ (fun r33 σ32 τ32 H locs h32 hP hS => ?_)
        obtain ⟨rfl, f34, f35, I36, h32⟩ := h32
        refine lv_pop hx hb dL_law_479 rfl ?_
        refine lv_goto (tgt := 1357) hx hb dL_law_480 (of_decide_eq_true rfl) ?_
        obtain ⟨x38, ex38⟩ : ∃ y : Int32, y = x0 + 6 := ⟨_, rfl⟩
        have tx38 : x38.toInt = x0.toInt + 6 := (jadd ex38 rfl jz_6 (by omega) (by omega)).trans (by omega)
        refine lv_iinc (v := x38) (lv' := [(3, .int x38), (2, .ref (ad 55)), (1, .ref (ad 0)), (0, .ref b)]) hx hb dL_law_1357 hl (k := 0) rfl (by rw [ex38]; rfl) (of_decide_eq_true rfl) rfl (fun ls hl => ?_)
        refine lv_goto (tgt := 18) hx hb dL_law_1360 (of_decide_eq_true rfl) ?_
        exact by
         have I39 : jI2 σ32 := jI2_fr ((congrFun (f34 2 (of_decide_eq_true rfl)) 0).trans (congrFun (f24 2 (of_decide_eq_true rfl)) 0)) ((congrFun (f34 2 (of_decide_eq_true rfl)) 1).trans (congrFun (f24 2 (of_decide_eq_true rfl)) 1)) ((congrFun (f34 2 (of_decide_eq_true rfl)) 2).trans (congrFun (f24 2 (of_decide_eq_true rfl)) 2)) ((congrFun (f34 2 (of_decide_eq_true rfl)) 3).trans (congrFun (f24 2 (of_decide_eq_true rfl)) 3)) ((f34 6 (of_decide_eq_true rfl)).trans (f24 6 (of_decide_eq_true rfl))) hI2
         have I40 : jI9 σ32 := jI9_fr ((congrFun (f34 9 (of_decide_eq_true rfl)) 0).trans (congrFun (f24 9 (of_decide_eq_true rfl)) 0)) ((f34 10 (of_decide_eq_true rfl)).trans (f24 10 (of_decide_eq_true rfl))) ((f34 11 (of_decide_eq_true rfl)).trans (f24 11 (of_decide_eq_true rfl))) hI9
         have I41 : jI12 σ32 := jI12_fr ((congrFun (f34 12 (of_decide_eq_true rfl)) 0).trans (congrFun (f24 12 (of_decide_eq_true rfl)) 0)) ((f34 13 (of_decide_eq_true rfl)).trans (f24 13 (of_decide_eq_true rfl))) hI12
         have I42 : jI16 σ32 := jI16_fr ((congrFun (f34 16 (of_decide_eq_true rfl)) 0).trans (congrFun (f24 16 (of_decide_eq_true rfl)) 0)) ((congrFun (f34 16 (of_decide_eq_true rfl)) 1).trans (congrFun (f24 16 (of_decide_eq_true rfl)) 1)) ((congrFun (f34 16 (of_decide_eq_true rfl)) 2).trans (congrFun (f24 16 (of_decide_eq_true rfl)) 2)) ((f34 17 (of_decide_eq_true rfl)).trans (f24 17 (of_decide_eq_true rfl))) hI16
         have I43 : jI18 σ32 := jI18_fr ((congrFun (f34 18 (of_decide_eq_true rfl)) 0).trans (congrFun (f24 18 (of_decide_eq_true rfl)) 0)) ((f34 19 (of_decide_eq_true rfl)).trans (f24 19 (of_decide_eq_true rfl))) hI18
         have I44 : jI22 σ32 := jI22_fr ((congrFun (f34 22 (of_decide_eq_true rfl)) 0).trans (congrFun (f24 22 (of_decide_eq_true rfl)) 0)) ((f34 23 (of_decide_eq_true rfl)).trans (f24 23 (of_decide_eq_true rfl))) hI22
         have I45 : jI31 σ32 := jI31_fr ((congrFun (f34 31 (of_decide_eq_true rfl)) 8).trans (congrFun (f24 31 (of_decide_eq_true rfl)) 8)) ((f34 33 (of_decide_eq_true rfl)).trans (f24 33 (of_decide_eq_true rfl))) ((f34 36 (of_decide_eq_true rfl)).trans (f24 36 (of_decide_eq_true rfl))) hI31
         have I46 : jI38 σ32 := jI38_fr ((congrFun (f34 38 (of_decide_eq_true rfl)) 0).trans (congrFun (f24 38 (of_decide_eq_true rfl)) 0)) ((congrFun (f34 38 (of_decide_eq_true rfl)) 1).trans (congrFun (f24 38 (of_decide_eq_true rfl)) 1)) ((f34 39 (of_decide_eq_true rfl)).trans (f24 39 (of_decide_eq_true rfl))) hI38
         have I47 : jI43 σ32 := jI43_fr ((congrFun (f34 43 (of_decide_eq_true rfl)) 8).trans (congrFun (f24 43 (of_decide_eq_true rfl)) 8)) hI43
         have I48 : jI47 σ32 := jI47_fr ((congrFun (f34 47 (of_decide_eq_true rfl)) 0).trans (congrFun (f24 47 (of_decide_eq_true rfl)) 0)) ((f34 48 (of_decide_eq_true rfl)).trans (f24 48 (of_decide_eq_true rfl))) ((f34 49 (of_decide_eq_true rfl)).trans (f24 49 (of_decide_eq_true rfl))) hI47
         have I49 : jI50 σ32 := jI50_fr ((f34 52 (of_decide_eq_true rfl)).trans (f24 52 (of_decide_eq_true rfl))) hI50
         have I50 : jI101 σ32 := jI101_fr (f35 4 (of_decide_eq_true rfl)) (f35 5 (of_decide_eq_true rfl)) (f34 56 (of_decide_eq_true rfl)) (f34 57 (of_decide_eq_true rfl)) (f34 58 (of_decide_eq_true rfl)) (f34 59 (of_decide_eq_true rfl)) I26
         have I51 : jI102 σ32 := jI102_fr (f35 6 (of_decide_eq_true rfl)) (f34 60 (of_decide_eq_true rfl)) (f34 61 (of_decide_eq_true rfl)) I27
         have I52 : jI103 σ32 := jI103_fr (f35 9 (of_decide_eq_true rfl)) I28
         have I53 : jI104 σ32 := jI104_fr (f35 10 (of_decide_eq_true rfl)) (f35 12 (of_decide_eq_true rfl)) (f35 13 (of_decide_eq_true rfl)) (f34 62 (of_decide_eq_true rfl)) (f34 67 (of_decide_eq_true rfl)) I29
         have I54 : jI105 σ32 := jI105_fr (f35 15 (of_decide_eq_true rfl)) (f34 65 (of_decide_eq_true rfl)) I30
         have I55 : jI106 σ32 := jI106_fr ((f35 32 (of_decide_eq_true rfl)).trans (congrFun (f24 55 (of_decide_eq_true rfl)) 32)) ((f34 70 (of_decide_eq_true rfl)).trans (f24 70 (of_decide_eq_true rfl))) ((f34 71 (of_decide_eq_true rfl)).trans (f24 71 (of_decide_eq_true rfl))) ((f34 72 (of_decide_eq_true rfl)).trans (f24 72 (of_decide_eq_true rfl))) hI106
         have I56 : jI107 σ32 := jI107_fr ((f35 12 (of_decide_eq_true rfl)).trans (congrFun (f24 55 (of_decide_eq_true rfl)) 12)) ((f35 47 (of_decide_eq_true rfl)).trans (congrFun (f24 55 (of_decide_eq_true rfl)) 47)) ((f34 80 (of_decide_eq_true rfl)).trans (f24 80 (of_decide_eq_true rfl))) hI107
         have I57 : jI109 σ32 := jI109_fr ((f35 50 (of_decide_eq_true rfl)).trans (congrFun (f24 55 (of_decide_eq_true rfl)) 50)) hI109
         have I58 : jI110 σ32 := jI110_fr ((f34 86 (of_decide_eq_true rfl)).trans (f24 86 (of_decide_eq_true rfl))) ((f34 87 (of_decide_eq_true rfl)).trans (f24 87 (of_decide_eq_true rfl))) hI110
         have I59 : jI111 σ32 := jI111_fr ((f34 79 (of_decide_eq_true rfl)).trans (f24 79 (of_decide_eq_true rfl))) hI111
         have p60 : jKept σ32 := jKept.fr ((f34 75 (of_decide_eq_true rfl)).trans (f24 75 (of_decide_eq_true rfl))) ((f34 76 (of_decide_eq_true rfl)).trans (f24 76 (of_decide_eq_true rfl))) ((f34 77 (of_decide_eq_true rfl)).trans (f24 77 (of_decide_eq_true rfl))) hs_jKept
         have p61 : jBook σ32 := jBook.fr ((f35 47 (of_decide_eq_true rfl)).trans (congrFun (f24 55 (of_decide_eq_true rfl)) 47)) ((f35 10 (of_decide_eq_true rfl)).trans (congrFun (f24 55 (of_decide_eq_true rfl)) 10)) ((f34 81 (of_decide_eq_true rfl)).trans (f24 81 (of_decide_eq_true rfl))) hs_jBook
         have z62 : (σ32 9 0).toInt = (σ 9 0).toInt := (congrArg Int32.toInt (show σ32 9 0 = (σ 9 0) from ((congrFun (f34 9 (of_decide_eq_true rfl)) 0).trans (congrFun (f24 9 (of_decide_eq_true rfl)) 0))))
         have z63 : (σ32 55 15).toInt = (σ 55 15).toInt := (congrArg Int32.toInt (show σ32 55 15 = (σ 55 15) from ((f35 15 (of_decide_eq_true rfl)).trans (congrFun (f24 55 (of_decide_eq_true rfl)) 15))))
         have z64 : (σ32 16 0).toInt = (σ 16 0).toInt := (congrArg Int32.toInt (show σ32 16 0 = (σ 16 0) from ((congrFun (f34 16 (of_decide_eq_true rfl)) 0).trans (congrFun (f24 16 (of_decide_eq_true rfl)) 0))))
         have z65 : (σ32 55 10).toInt = (σ 55 10).toInt := (congrArg Int32.toInt (show σ32 55 10 = (σ 55 10) from ((f35 10 (of_decide_eq_true rfl)).trans (congrFun (f24 55 (of_decide_eq_true rfl)) 10))))
         have z66 : (σ32 16 1).toInt = (σ 16 1).toInt := (congrArg Int32.toInt (show σ32 16 1 = (σ 16 1) from ((congrFun (f34 16 (of_decide_eq_true rfl)) 1).trans (congrFun (f24 16 (of_decide_eq_true rfl)) 1))))
         have z67 : (σ32 55 12).toInt = (σ 55 12).toInt := (congrArg Int32.toInt (show σ32 55 12 = (σ 55 12) from ((f35 12 (of_decide_eq_true rfl)).trans (congrFun (f24 55 (of_decide_eq_true rfl)) 12))))
         have z68 : (σ32 16 2).toInt = (σ 16 2).toInt := (congrArg Int32.toInt (show σ32 16 2 = (σ 16 2) from ((congrFun (f34 16 (of_decide_eq_true rfl)) 2).trans (congrFun (f24 16 (of_decide_eq_true rfl)) 2))))
         have z69 : (σ32 55 13).toInt = (σ 55 13).toInt := (congrArg Int32.toInt (show σ32 55 13 = (σ 55 13) from ((f35 13 (of_decide_eq_true rfl)).trans (congrFun (f24 55 (of_decide_eq_true rfl)) 13))))
         exact by exact ih x38 σ32 τ _ _ ls (by have h9 := tx38; omega) ⟨I39, I40, I41, I42, I43, I44, I45, I46, I47, I48, I49, I50, I51, I52, I53, I54, I55, I56, I57, I58, I59, I36, p60, p61, (by omega), (by omega), (by omega), (by omega), (show jTp (σ32 10) (σ32 63) (σ32 55 15).toInt by rw [show σ32 10 = σ 10 from ((f34 10 (of_decide_eq_true rfl)).trans (f24 10 (of_decide_eq_true rfl))), show σ32 63 = σ 63 from ((f34 63 (of_decide_eq_true rfl)).trans (f24 63 (of_decide_eq_true rfl)))]; exact hr0.le (by omega)), (show jSo (σ32 17) (σ32 62) (σ32 16 0).toInt by rw [show σ32 17 = σ 17 from ((f34 17 (of_decide_eq_true rfl)).trans (f24 17 (of_decide_eq_true rfl))), show σ32 62 = σ 62 from ((f34 62 (of_decide_eq_true rfl)).trans (f24 62 (of_decide_eq_true rfl))), show (σ32 16 0).toInt = (σ 16 0).toInt from by omega]; exact hr1)⟩ hP hS (lv_sub hl [0, 1, 2, 3] rfl)
set_option maxHeartbeats 4000000 in
set_option maxRecDepth 100000 in
theorem law_case_9 {p : Program} {e : Env} {s : State} {m : MethodId} {below : List Frame} {meth : Method} {c : Code} (l : Launch) {b L : Nat} {xs : Nat → Int32} {D : va_G} {cI cL : ClassId} {ad zz : Nat → Nat} (C0 : lw_At p s m meth c b L xs) (hJ : jD ad) (hA : ∀ q, jA ad q → s.heap.size ≤ q) (hK : jK D cI cL s) (hZ : jZ zz (fun q : Nat => s.heap.size ≤ q) s s.heap) {x0 : Int32} (hx0 : 0 ≤ x0.toInt) (hxL : x0.toInt + 6 ≤ (L : Int)) (hL : L ≤ 384) {σ : Nat → Nat → Int32} {τ : Nat → Nat → Int64} {H : Heap} {locs : List Loc} (hS : va_S (fun q : Nat => s.heap.size ≤ q) s.heap H locs) {ls : Array Slot} (hAll : jAll σ τ) (hP : jH D cI cL ad σ τ H) (hl : lv_has ls 4 [(3, .int x0), (2, .ref (ad 55)), (1, .ref (ad 0)), (0, .ref b)]) (ih : ∀ (x1 : Int32) (σ : Nat → Nat → Int32) (τ : Nat → Nat → Int64) (H : Heap) (locs : List Loc) (ls : Array Slot), x1.toInt = x0.toInt + 6 → jAll σ τ → jH D cI cL ad σ τ H → va_S (fun q : Nat => s.heap.size ≤ q) s.heap H locs → lv_has ls 4 [(3, .int x1), (2, .ref (ad 55)), (1, .ref (ad 0)), (0, .ref b)] → W p l e room_1 s m #[Value.ref b] below meth c H locs 90 348600 (lw_Z below #[Value.ref b] s) (F0 m 18 ls [])) : W p l e room_1 s m #[Value.ref b] below meth c H locs 90 348600 (lw_Z below #[Value.ref b] s) (F0 m 483 ls []) := by
  obtain ⟨hx, hb, hr, hml, hown, hts0, hX, hbl, hlocks, hgv⟩ := C0
  have hts : ∀ w ∈ wsL_law, w.before #[Value.ref b] s = true := fun w h => hts0 w (wsL_law_in w h)
  have hbA : ¬ (fun q : Nat => s.heap.size ≤ q) b := Nat.not_le.mpr hbl
  have hown : s.vm.findClass RL = some m.cls := hown
  obtain ⟨hI2, hI9, hI12, hI16, hI18, hI22, hI31, hI38, hI43, hI47, hI50, hI101, hI102, hI103, hI104, hI105, hI106, hI107, hI109, hI110, hI111, hI119, hs_jKept, hs_jBook, ht0, ht1, ht2, ht3, hr0, hr1⟩ := hAll
  have hL9 : (L : Int) ≤ 384 := by omega
  obtain ⟨i1, w2, w3⟩ : (0 ≤ (σ 9 0).toInt ∧ (σ 9 0).toInt ≤ 80) ∧ (∀ k : Nat, k < 80 → 0 ≤ (σ 10 k).toInt ∧ (σ 10 k).toInt ≤ 255) ∧ (∀ k : Nat, k < 8 → 0 ≤ (σ 11 k).toInt ∧ (σ 11 k).toInt ≤ 3) := id hI9
  obtain ⟨i4, i5, i6, w7⟩ : (1 ≤ (σ 16 0).toInt ∧ (σ 16 0).toInt ≤ 8) ∧ (1 ≤ (σ 16 1).toInt ∧ (σ 16 1).toInt ≤ 12) ∧ (0 ≤ (σ 16 2).toInt ∧ (σ 16 2).toInt ≤ 999) ∧ (∀ k : Nat, k < 8 → 0 ≤ (σ 17 k).toInt ∧ (σ 17 k).toInt ≤ 3) := id hI16
  obtain ⟨i8, i9, i10, w11, w12⟩ : (1 ≤ (σ 55 10).toInt ∧ (σ 55 10).toInt ≤ 8) ∧ (1 ≤ (σ 55 12).toInt ∧ (σ 55 12).toInt ≤ 12) ∧ (0 ≤ (σ 55 13).toInt ∧ (σ 55 13).toInt ≤ 999) ∧ (∀ k : Nat, k < 8 → 0 ≤ (σ 62 k).toInt ∧ (σ 62 k).toInt ≤ 3) ∧ (∀ k : Nat, k < 8 → 0 ≤ (σ 67 k).toInt ∧ (σ 67 k).toInt ≤ 3) := id hI104
  obtain ⟨i13, w14⟩ : (0 ≤ (σ 55 15).toInt ∧ (σ 55 15).toInt ≤ 80) ∧ (∀ k : Nat, k < 2 → (-1) ≤ (σ 65 k).toInt ∧ (σ 65 k).toInt ≤ 80) := id hI105
  refine lv_aload_n hx hb dL_law_483 rfl (lv_at hl 2 rfl) ?_
  refine lv_aload_n hx hb dL_law_484 rfl (lv_at hl 3 rfl) ?_
  refine lv_iload_n hx hb dL_law_485 rfl (lv_at hl 0 rfl) ?_
  refine lv_iconst (v := 1) hx hb dL_law_486 (of_decide_eq_true rfl) ?_
  have g15 := jrg (rfl : x0.toInt = x0.toInt)
  refine lv_iadd hx hb dL_law_487 ?_
  refine lv_topi (fun x16 ex16 => ?_)
  exact by
   have tx16 : x16.toInt = x0.toInt + 1 := (jadd ex16 rfl jz_1 (by omega) (by omega)).trans (by omega)
   refine va_sld hx hb hX hbl hbA hS (jin tx16 (by omega) (by omega)) dL_law_488 ?_
   have g17 := jrg (rfl : (xs x16.toNatClampNeg).toInt = (xs x16.toNatClampNeg).toInt)
   refine lv_aload_n hx hb dL_law_489 rfl (lv_at hl 3 rfl) ?_
   refine lv_iload_n hx hb dL_law_490 rfl (lv_at hl 0 rfl) ?_
   refine lv_iconst (v := 2) hx hb dL_law_491 (of_decide_eq_true rfl) ?_
   refine lv_iadd hx hb dL_law_492 ?_
   refine lv_topi (fun x18 ex18 => ?_)
   have tx18 : x18.toInt = x0.toInt + 2 := (jadd ex18 rfl jz_2 (by omega) (by omega)).trans (by omega)
   exact by
    refine va_sld hx hb hX hbl hbA hS (jin tx18 (by omega) (by omega)) dL_law_493 ?_
    have g19 := jrg (rfl : (xs x18.toNatClampNeg).toInt = (xs x18.toNatClampNeg).toInt)
    refine lv_aload_n hx hb dL_law_494 rfl (lv_at hl 3 rfl) ?_
    refine lv_iload_n hx hb dL_law_495 rfl (lv_at hl 0 rfl) ?_
    refine lv_iconst (v := 3) hx hb dL_law_496 (of_decide_eq_true rfl) ?_
    refine lv_iadd hx hb dL_law_497 ?_
    refine lv_topi (fun x20 ex20 => ?_)
    have tx20 : x20.toInt = x0.toInt + 3 := (jadd ex20 rfl jz_3 (by omega) (by omega)).trans (by omega)
    refine va_sld hx hb hX hbl hbA hS (jin tx20 (by omega) (by omega)) dL_law_498 ?_
    exact by
     have g21 := jrg (rfl : (xs x20.toNatClampNeg).toInt = (xs x20.toNatClampNeg).toInt)
     refine jcallV (As := [.int (xs x16.toNatClampNeg), .int (xs x18.toNatClampNeg), .int (xs x20.toNatClampNeg)]) (rest := []) ⟨hx, hb, hml, hown, hts⟩ hK hP hA hS hZ (c_X11_rule l D cI cL ad zz hJ σ τ (xs x16.toNatClampNeg) ((xs x16.toNatClampNeg).toInt) rfl (xs x18.toNatClampNeg) ((xs x18.toNatClampNeg).toInt) rfl (xs x20.toNatClampNeg) ((xs x20.toNatClampNeg).toInt) rfl hI38) cw_RL_53 (jc_0 cI cL ad σ τ) rfl ⟨Nat.le_of_ble_eq_true rfl, Nat.le_of_ble_eq_true rfl⟩ rfl rfl rfl hl.1 rfl (Nat.le_of_ble_eq_true rfl) dL_law_499 ⟨Nat.le_of_ble_eq_true rfl, Nat.le_of_ble_eq_true rfl⟩ (fun r23 σ22 τ22 H locs h22 hP hS => ?_)
     obtain ⟨rfl, f24, f25, I26, h22⟩ := h22
     rcases h22 with h28 | h29 | h30
     · obtain ⟨q34, k31, k32, k33⟩ := h28
       have q34 := q34.symm
       subst q34
       refine lv_pop hx hb dL_law_502 rfl ?_
       refine lv_aload_n hx hb dL_law_503 rfl (lv_at hl 1 rfl) ?_
       refine lv_aload_n hx hb dL_law_504 rfl (lv_at hl 3 rfl) ?_
       refine lv_iload_n hx hb dL_law_505 rfl (lv_at hl 0 rfl) ?_
       refine lv_iconst (v := 1) hx hb dL_law_506 (of_decide_eq_true rfl) ?_
       refine lv_iadd hx hb dL_law_507 ?_
       refine jtopr ex16.symm ?_
       exact by
        refine va_sld hx hb hX hbl hbA hS (jin tx16 (by omega) (by omega)) dL_law_508 ?_
        refine lv_aload_n hx hb dL_law_509 rfl (lv_at hl 3 rfl) ?_
        refine lv_iload_n hx hb dL_law_510 rfl (lv_at hl 0 rfl) ?_
        refine lv_iconst (v := 2) hx hb dL_law_511 (of_decide_eq_true rfl) ?_
        refine lv_iadd hx hb dL_law_512 ?_
        refine jtopr ex18.symm ?_
        refine va_sld hx hb hX hbl hbA hS (jin tx18 (by omega) (by omega)) dL_law_513 ?_
        refine lv_aload_n hx hb dL_law_514 rfl (lv_at hl 3 rfl) ?_
        refine lv_iload_n hx hb dL_law_515 rfl (lv_at hl 0 rfl) ?_
        exact by
         refine lv_iconst (v := 3) hx hb dL_law_516 (of_decide_eq_true rfl) ?_
         refine lv_iadd hx hb dL_law_517 ?_
         refine jtopr ex20.symm ?_
         refine va_sld hx hb hX hbl hbA hS (jin tx20 (by omega) (by omega)) dL_law_518 ?_
         have I35 : jI106 σ22 := jI106_fr (congrFun (f24 55 (of_decide_eq_true rfl)) 32) (f24 70 (of_decide_eq_true rfl)) (f24 71 (of_decide_eq_true rfl)) (f24 72 (of_decide_eq_true rfl)) hI106
         have z36 : (σ22 55 32).toInt = (σ 55 32).toInt := (congrArg Int32.toInt (show σ22 55 32 = (σ 55 32) from (congrFun (f24 55 (of_decide_eq_true rfl)) 32)))
         refine jcallV (As := [.int (xs x16.toNatClampNeg), .int (xs x18.toNatClampNeg), .int (xs x20.toNatClampNeg)]) (rest := []) ⟨hx, hb, hml, hown, hts⟩ hK hP hA hS hZ (c_X12_rule l D cI cL ad zz hJ σ22 τ (xs x16.toNatClampNeg) ((xs x16.toNatClampNeg).toInt) rfl (xs x18.toNatClampNeg) ((xs x18.toNatClampNeg).toInt) rfl (xs x20.toNatClampNeg) ((xs x20.toNatClampNeg).toInt) rfl I35) cw_RL_56 (jc_55 cI cL ad σ22 τ) rfl ⟨Nat.le_of_ble_eq_true rfl, Nat.le_of_ble_eq_true rfl⟩ rfl rfl rfl hl.1 rfl (Nat.le_of_ble_eq_true rfl) dL_law_519 ⟨Nat.le_of_ble_eq_true rfl, Nat.le_of_ble_eq_true rfl⟩ (fun r38 σ37 τ37 H locs h37 hP hS => ?_)
         obtain ⟨rfl, f39, f40, I41, h37⟩ := h37
         rcases h37 with h43 | h44 | h45
         · exact by
            obtain ⟨q49, k46, k47, k48⟩ := h43
            have q49 := q49.symm
            subst q49
            refine lv_pop hx hb dL_law_522 rfl ?_
            refine lv_goto (tgt := 1357) hx hb dL_law_523 (of_decide_eq_true rfl) ?_
            obtain ⟨x50, ex50⟩ : ∃ y : Int32, y = x0 + 6 := ⟨_, rfl⟩
            have tx50 : x50.toInt = x0.toInt + 6 := (jadd ex50 rfl jz_6 (by omega) (by omega)).trans (by omega)
            refine lv_iinc (v := x50) (lv' := [(3, .int x50), (2, .ref (ad 55)), (1, .ref (ad 0)), (0, .ref b)]) hx hb dL_law_1357 hl (k := 0) rfl (by rw [ex50]; rfl) (of_decide_eq_true rfl) rfl (fun ls hl => ?_)
            refine lv_goto (tgt := 18) hx hb dL_law_1360 (of_decide_eq_true rfl) ?_
            exact by
             have I51 : jI2 σ37 := jI2_fr ((congrFun (f39 2 (of_decide_eq_true rfl)) 0).trans (congrFun (f24 2 (of_decide_eq_true rfl)) 0)) ((congrFun (f39 2 (of_decide_eq_true rfl)) 1).trans (congrFun (f24 2 (of_decide_eq_true rfl)) 1)) ((congrFun (f39 2 (of_decide_eq_true rfl)) 2).trans (congrFun (f24 2 (of_decide_eq_true rfl)) 2)) ((congrFun (f39 2 (of_decide_eq_true rfl)) 3).trans (congrFun (f24 2 (of_decide_eq_true rfl)) 3)) ((f39 6 (of_decide_eq_true rfl)).trans (f24 6 (of_decide_eq_true rfl))) hI2
             have I52 : jI9 σ37 := jI9_fr ((congrFun (f39 9 (of_decide_eq_true rfl)) 0).trans (congrFun (f24 9 (of_decide_eq_true rfl)) 0)) ((f39 10 (of_decide_eq_true rfl)).trans (f24 10 (of_decide_eq_true rfl))) ((f39 11 (of_decide_eq_true rfl)).trans (f24 11 (of_decide_eq_true rfl))) hI9
             have I53 : jI12 σ37 := jI12_fr ((congrFun (f39 12 (of_decide_eq_true rfl)) 0).trans (congrFun (f24 12 (of_decide_eq_true rfl)) 0)) ((f39 13 (of_decide_eq_true rfl)).trans (f24 13 (of_decide_eq_true rfl))) hI12
             have I54 : jI16 σ37 := jI16_fr ((congrFun (f39 16 (of_decide_eq_true rfl)) 0).trans (congrFun (f24 16 (of_decide_eq_true rfl)) 0)) ((congrFun (f39 16 (of_decide_eq_true rfl)) 1).trans (congrFun (f24 16 (of_decide_eq_true rfl)) 1)) ((congrFun (f39 16 (of_decide_eq_true rfl)) 2).trans (congrFun (f24 16 (of_decide_eq_true rfl)) 2)) ((f39 17 (of_decide_eq_true rfl)).trans (f24 17 (of_decide_eq_true rfl))) hI16
             have I55 : jI18 σ37 := jI18_fr ((congrFun (f39 18 (of_decide_eq_true rfl)) 0).trans (congrFun (f24 18 (of_decide_eq_true rfl)) 0)) ((f39 19 (of_decide_eq_true rfl)).trans (f24 19 (of_decide_eq_true rfl))) hI18
             have I56 : jI22 σ37 := jI22_fr ((congrFun (f39 22 (of_decide_eq_true rfl)) 0).trans (congrFun (f24 22 (of_decide_eq_true rfl)) 0)) ((f39 23 (of_decide_eq_true rfl)).trans (f24 23 (of_decide_eq_true rfl))) hI22
             have I57 : jI31 σ37 := jI31_fr ((congrFun (f39 31 (of_decide_eq_true rfl)) 8).trans (congrFun (f24 31 (of_decide_eq_true rfl)) 8)) ((f39 33 (of_decide_eq_true rfl)).trans (f24 33 (of_decide_eq_true rfl))) ((f39 36 (of_decide_eq_true rfl)).trans (f24 36 (of_decide_eq_true rfl))) hI31
             have I58 : jI38 σ37 := jI38_fr (congrFun (f39 38 (of_decide_eq_true rfl)) 0) (congrFun (f39 38 (of_decide_eq_true rfl)) 1) (f39 39 (of_decide_eq_true rfl)) I26
             have I59 : jI43 σ37 := jI43_fr ((congrFun (f39 43 (of_decide_eq_true rfl)) 8).trans (congrFun (f24 43 (of_decide_eq_true rfl)) 8)) hI43
             have I60 : jI47 σ37 := jI47_fr ((congrFun (f39 47 (of_decide_eq_true rfl)) 0).trans (congrFun (f24 47 (of_decide_eq_true rfl)) 0)) ((f39 48 (of_decide_eq_true rfl)).trans (f24 48 (of_decide_eq_true rfl))) ((f39 49 (of_decide_eq_true rfl)).trans (f24 49 (of_decide_eq_true rfl))) hI47
             have I61 : jI50 σ37 := jI50_fr ((f39 52 (of_decide_eq_true rfl)).trans (f24 52 (of_decide_eq_true rfl))) hI50
             have I62 : jI101 σ37 := jI101_fr ((f40 4 (of_decide_eq_true rfl)).trans (congrFun (f24 55 (of_decide_eq_true rfl)) 4)) ((f40 5 (of_decide_eq_true rfl)).trans (congrFun (f24 55 (of_decide_eq_true rfl)) 5)) ((f39 56 (of_decide_eq_true rfl)).trans (f24 56 (of_decide_eq_true rfl))) ((f39 57 (of_decide_eq_true rfl)).trans (f24 57 (of_decide_eq_true rfl))) ((f39 58 (of_decide_eq_true rfl)).trans (f24 58 (of_decide_eq_true rfl))) ((f39 59 (of_decide_eq_true rfl)).trans (f24 59 (of_decide_eq_true rfl))) hI101
             have I63 : jI102 σ37 := jI102_fr ((f40 6 (of_decide_eq_true rfl)).trans (congrFun (f24 55 (of_decide_eq_true rfl)) 6)) ((f39 60 (of_decide_eq_true rfl)).trans (f24 60 (of_decide_eq_true rfl))) ((f39 61 (of_decide_eq_true rfl)).trans (f24 61 (of_decide_eq_true rfl))) hI102
             have I64 : jI103 σ37 := jI103_fr ((f40 9 (of_decide_eq_true rfl)).trans (congrFun (f24 55 (of_decide_eq_true rfl)) 9)) hI103
             have I65 : jI104 σ37 := jI104_fr ((f40 10 (of_decide_eq_true rfl)).trans (congrFun (f24 55 (of_decide_eq_true rfl)) 10)) ((f40 12 (of_decide_eq_true rfl)).trans (congrFun (f24 55 (of_decide_eq_true rfl)) 12)) ((f40 13 (of_decide_eq_true rfl)).trans (congrFun (f24 55 (of_decide_eq_true rfl)) 13)) ((f39 62 (of_decide_eq_true rfl)).trans (f24 62 (of_decide_eq_true rfl))) ((f39 67 (of_decide_eq_true rfl)).trans (f24 67 (of_decide_eq_true rfl))) hI104
             have I66 : jI105 σ37 := jI105_fr ((f40 15 (of_decide_eq_true rfl)).trans (congrFun (f24 55 (of_decide_eq_true rfl)) 15)) ((f39 65 (of_decide_eq_true rfl)).trans (f24 65 (of_decide_eq_true rfl))) hI105
             have I67 : jI107 σ37 := jI107_fr ((f40 12 (of_decide_eq_true rfl)).trans (congrFun (f24 55 (of_decide_eq_true rfl)) 12)) ((f40 47 (of_decide_eq_true rfl)).trans (congrFun (f24 55 (of_decide_eq_true rfl)) 47)) ((f39 80 (of_decide_eq_true rfl)).trans (f24 80 (of_decide_eq_true rfl))) hI107
             have I68 : jI109 σ37 := jI109_fr ((f40 50 (of_decide_eq_true rfl)).trans (congrFun (f24 55 (of_decide_eq_true rfl)) 50)) hI109
             have I69 : jI110 σ37 := jI110_fr ((f39 86 (of_decide_eq_true rfl)).trans (f24 86 (of_decide_eq_true rfl))) ((f39 87 (of_decide_eq_true rfl)).trans (f24 87 (of_decide_eq_true rfl))) hI110
             have I70 : jI111 σ37 := jI111_fr ((f39 79 (of_decide_eq_true rfl)).trans (f24 79 (of_decide_eq_true rfl))) hI111
             have I71 : jI119 σ37 := jI119_fr ((f39 68 (of_decide_eq_true rfl)).trans (f24 68 (of_decide_eq_true rfl))) hI119
             have p72 : jKept σ37 := jKept.fr ((f39 75 (of_decide_eq_true rfl)).trans (f24 75 (of_decide_eq_true rfl))) ((f39 76 (of_decide_eq_true rfl)).trans (f24 76 (of_decide_eq_true rfl))) ((f39 77 (of_decide_eq_true rfl)).trans (f24 77 (of_decide_eq_true rfl))) hs_jKept
             have p73 : jBook σ37 := jBook.fr ((f40 47 (of_decide_eq_true rfl)).trans (congrFun (f24 55 (of_decide_eq_true rfl)) 47)) ((f40 10 (of_decide_eq_true rfl)).trans (congrFun (f24 55 (of_decide_eq_true rfl)) 10)) ((f39 81 (of_decide_eq_true rfl)).trans (f24 81 (of_decide_eq_true rfl))) hs_jBook
             have z74 : (σ37 9 0).toInt = (σ 9 0).toInt := (congrArg Int32.toInt (show σ37 9 0 = (σ 9 0) from ((congrFun (f39 9 (of_decide_eq_true rfl)) 0).trans (congrFun (f24 9 (of_decide_eq_true rfl)) 0))))
             have z75 : (σ37 55 15).toInt = (σ 55 15).toInt := (congrArg Int32.toInt (show σ37 55 15 = (σ 55 15) from ((f40 15 (of_decide_eq_true rfl)).trans (congrFun (f24 55 (of_decide_eq_true rfl)) 15))))
             have z76 : (σ37 16 0).toInt = (σ 16 0).toInt := (congrArg Int32.toInt (show σ37 16 0 = (σ 16 0) from ((congrFun (f39 16 (of_decide_eq_true rfl)) 0).trans (congrFun (f24 16 (of_decide_eq_true rfl)) 0))))
             have z77 : (σ37 55 10).toInt = (σ 55 10).toInt := (congrArg Int32.toInt (show σ37 55 10 = (σ 55 10) from ((f40 10 (of_decide_eq_true rfl)).trans (congrFun (f24 55 (of_decide_eq_true rfl)) 10))))
             have z78 : (σ37 16 1).toInt = (σ 16 1).toInt := (congrArg Int32.toInt (show σ37 16 1 = (σ 16 1) from ((congrFun (f39 16 (of_decide_eq_true rfl)) 1).trans (congrFun (f24 16 (of_decide_eq_true rfl)) 1))))
             have z79 : (σ37 55 12).toInt = (σ 55 12).toInt := (congrArg Int32.toInt (show σ37 55 12 = (σ 55 12) from ((f40 12 (of_decide_eq_true rfl)).trans (congrFun (f24 55 (of_decide_eq_true rfl)) 12))))
             have z80 : (σ37 16 2).toInt = (σ 16 2).toInt := (congrArg Int32.toInt (show σ37 16 2 = (σ 16 2) from ((congrFun (f39 16 (of_decide_eq_true rfl)) 2).trans (congrFun (f24 16 (of_decide_eq_true rfl)) 2))))
             have z81 : (σ37 55 13).toInt = (σ 55 13).toInt := (congrArg Int32.toInt (show σ37 55 13 = (σ 55 13) from ((f40 13 (of_decide_eq_true rfl)).trans (congrFun (f24 55 (of_decide_eq_true rfl)) 13))))
             exact by exact ih x50 σ37 τ _ _ ls (by have h9 := tx50; omega) ⟨I51, I52, I53, I54, I55, I56, I57, I58, I59, I60, I61, I62, I63, I64, I65, I66, I41, I67, I68, I69, I70, I71, p72, p73, (by omega), (by omega), (by omega), (by omega), (show jTp (σ37 10) (σ37 63) (σ37 55 15).toInt by rw [show σ37 10 = σ 10 from ((f39 10 (of_decide_eq_true rfl)).trans (f24 10 (of_decide_eq_true rfl))), show σ37 63 = σ 63 from ((f39 63 (of_decide_eq_true rfl)).trans (f24 63 (of_decide_eq_true rfl)))]; exact hr0.le (by omega)), (show jSo (σ37 17) (σ37 62) (σ37 16 0).toInt by rw [show σ37 17 = σ 17 from ((f39 17 (of_decide_eq_true rfl)).trans (f24 17 (of_decide_eq_true rfl))), show σ37 62 = σ 62 from ((f39 62 (of_decide_eq_true rfl)).trans (f24 62 (of_decide_eq_true rfl))), show (σ37 16 0).toInt = (σ 16 0).toInt from by omega]; exact hr1)⟩ hP hS (lv_sub hl [0, 1, 2, 3] rfl)
         · obtain ⟨q86, k82, k83, k84, k85⟩ := h44
           have q86 := q86.symm
           subst q86
           exact absurd k84 k32
         · obtain ⟨q92, k87, k88, k89, k90, k91⟩ := h45
           exact absurd k90 k32
     · obtain ⟨q97, k93, k94, k95, k96⟩ := h29
       have q97 := q97.symm
       subst q97
       refine lv_pop hx hb dL_law_502 rfl ?_
       refine lv_aload_n hx hb dL_law_503 rfl (lv_at hl 1 rfl) ?_
       refine lv_aload_n hx hb dL_law_504 rfl (lv_at hl 3 rfl) ?_
       refine lv_iload_n hx hb dL_law_505 rfl (lv_at hl 0 rfl) ?_
       refine lv_iconst (v := 1) hx hb dL_law_506 (of_decide_eq_true rfl) ?_
       refine lv_iadd hx hb dL_law_507 ?_
       refine jtopr ex16.symm ?_
       exact by
        refine va_sld hx hb hX hbl hbA hS (jin tx16 (by omega) (by omega)) dL_law_508 ?_
        refine lv_aload_n hx hb dL_law_509 rfl (lv_at hl 3 rfl) ?_
        refine lv_iload_n hx hb dL_law_510 rfl (lv_at hl 0 rfl) ?_
        refine lv_iconst (v := 2) hx hb dL_law_511 (of_decide_eq_true rfl) ?_
        refine lv_iadd hx hb dL_law_512 ?_
        refine jtopr ex18.symm ?_
        refine va_sld hx hb hX hbl hbA hS (jin tx18 (by omega) (by omega)) dL_law_513 ?_
        refine lv_aload_n hx hb dL_law_514 rfl (lv_at hl 3 rfl) ?_
        refine lv_iload_n hx hb dL_law_515 rfl (lv_at hl 0 rfl) ?_
        exact by
         refine lv_iconst (v := 3) hx hb dL_law_516 (of_decide_eq_true rfl) ?_
         refine lv_iadd hx hb dL_law_517 ?_
         refine jtopr ex20.symm ?_
         refine va_sld hx hb hX hbl hbA hS (jin tx20 (by omega) (by omega)) dL_law_518 ?_
         have I98 : jI106 σ22 := jI106_fr (congrFun (f24 55 (of_decide_eq_true rfl)) 32) (f24 70 (of_decide_eq_true rfl)) (f24 71 (of_decide_eq_true rfl)) (f24 72 (of_decide_eq_true rfl)) hI106
         have z99 : (σ22 55 32).toInt = (σ 55 32).toInt := (congrArg Int32.toInt (show σ22 55 32 = (σ 55 32) from (congrFun (f24 55 (of_decide_eq_true rfl)) 32)))
         refine jcallV (As := [.int (xs x16.toNatClampNeg), .int (xs x18.toNatClampNeg), .int (xs x20.toNatClampNeg)]) (rest := []) ⟨hx, hb, hml, hown, hts⟩ hK hP hA hS hZ (c_X12_rule l D cI cL ad zz hJ σ22 τ (xs x16.toNatClampNeg) ((xs x16.toNatClampNeg).toInt) rfl (xs x18.toNatClampNeg) ((xs x18.toNatClampNeg).toInt) rfl (xs x20.toNatClampNeg) ((xs x20.toNatClampNeg).toInt) rfl I98) cw_RL_56 (jc_55 cI cL ad σ22 τ) rfl ⟨Nat.le_of_ble_eq_true rfl, Nat.le_of_ble_eq_true rfl⟩ rfl rfl rfl hl.1 rfl (Nat.le_of_ble_eq_true rfl) dL_law_519 ⟨Nat.le_of_ble_eq_true rfl, Nat.le_of_ble_eq_true rfl⟩ (fun r101 σ100 τ100 H locs h100 hP hS => ?_)
         obtain ⟨rfl, f102, f103, I104, h100⟩ := h100
         rcases h100 with h106 | h107 | h108
         · exact by
            obtain ⟨q112, k109, k110, k111⟩ := h106
            have q112 := q112.symm
            subst q112
            exact absurd k95 k110
         · obtain ⟨q117, k113, k114, k115, k116⟩ := h107
           have q117 := q117.symm
           subst q117
           refine lv_pop hx hb dL_law_522 rfl ?_
           refine lv_goto (tgt := 1357) hx hb dL_law_523 (of_decide_eq_true rfl) ?_
           obtain ⟨x118, ex118⟩ : ∃ y : Int32, y = x0 + 6 := ⟨_, rfl⟩
           exact by
            have tx118 : x118.toInt = x0.toInt + 6 := (jadd ex118 rfl jz_6 (by omega) (by omega)).trans (by omega)
            refine lv_iinc (v := x118) (lv' := [(3, .int x118), (2, .ref (ad 55)), (1, .ref (ad 0)), (0, .ref b)]) hx hb dL_law_1357 hl (k := 0) rfl (by rw [ex118]; rfl) (of_decide_eq_true rfl) rfl (fun ls hl => ?_)
            refine lv_goto (tgt := 18) hx hb dL_law_1360 (of_decide_eq_true rfl) ?_
            have I119 : jI2 σ100 := jI2_fr ((congrFun (f102 2 (of_decide_eq_true rfl)) 0).trans (congrFun (f24 2 (of_decide_eq_true rfl)) 0)) ((congrFun (f102 2 (of_decide_eq_true rfl)) 1).trans (congrFun (f24 2 (of_decide_eq_true rfl)) 1)) ((congrFun (f102 2 (of_decide_eq_true rfl)) 2).trans (congrFun (f24 2 (of_decide_eq_true rfl)) 2)) ((congrFun (f102 2 (of_decide_eq_true rfl)) 3).trans (congrFun (f24 2 (of_decide_eq_true rfl)) 3)) ((f102 6 (of_decide_eq_true rfl)).trans (f24 6 (of_decide_eq_true rfl))) hI2
            have I120 : jI9 σ100 := jI9_fr ((congrFun (f102 9 (of_decide_eq_true rfl)) 0).trans (congrFun (f24 9 (of_decide_eq_true rfl)) 0)) ((f102 10 (of_decide_eq_true rfl)).trans (f24 10 (of_decide_eq_true rfl))) ((f102 11 (of_decide_eq_true rfl)).trans (f24 11 (of_decide_eq_true rfl))) hI9
            have I121 : jI12 σ100 := jI12_fr ((congrFun (f102 12 (of_decide_eq_true rfl)) 0).trans (congrFun (f24 12 (of_decide_eq_true rfl)) 0)) ((f102 13 (of_decide_eq_true rfl)).trans (f24 13 (of_decide_eq_true rfl))) hI12
            have I122 : jI16 σ100 := jI16_fr ((congrFun (f102 16 (of_decide_eq_true rfl)) 0).trans (congrFun (f24 16 (of_decide_eq_true rfl)) 0)) ((congrFun (f102 16 (of_decide_eq_true rfl)) 1).trans (congrFun (f24 16 (of_decide_eq_true rfl)) 1)) ((congrFun (f102 16 (of_decide_eq_true rfl)) 2).trans (congrFun (f24 16 (of_decide_eq_true rfl)) 2)) ((f102 17 (of_decide_eq_true rfl)).trans (f24 17 (of_decide_eq_true rfl))) hI16
            have I123 : jI18 σ100 := jI18_fr ((congrFun (f102 18 (of_decide_eq_true rfl)) 0).trans (congrFun (f24 18 (of_decide_eq_true rfl)) 0)) ((f102 19 (of_decide_eq_true rfl)).trans (f24 19 (of_decide_eq_true rfl))) hI18
            have I124 : jI22 σ100 := jI22_fr ((congrFun (f102 22 (of_decide_eq_true rfl)) 0).trans (congrFun (f24 22 (of_decide_eq_true rfl)) 0)) ((f102 23 (of_decide_eq_true rfl)).trans (f24 23 (of_decide_eq_true rfl))) hI22
            exact by
             have I125 : jI31 σ100 := jI31_fr ((congrFun (f102 31 (of_decide_eq_true rfl)) 8).trans (congrFun (f24 31 (of_decide_eq_true rfl)) 8)) ((f102 33 (of_decide_eq_true rfl)).trans (f24 33 (of_decide_eq_true rfl))) ((f102 36 (of_decide_eq_true rfl)).trans (f24 36 (of_decide_eq_true rfl))) hI31
             have I126 : jI38 σ100 := jI38_fr (congrFun (f102 38 (of_decide_eq_true rfl)) 0) (congrFun (f102 38 (of_decide_eq_true rfl)) 1) (f102 39 (of_decide_eq_true rfl)) I26
             have I127 : jI43 σ100 := jI43_fr ((congrFun (f102 43 (of_decide_eq_true rfl)) 8).trans (congrFun (f24 43 (of_decide_eq_true rfl)) 8)) hI43
             have I128 : jI47 σ100 := jI47_fr ((congrFun (f102 47 (of_decide_eq_true rfl)) 0).trans (congrFun (f24 47 (of_decide_eq_true rfl)) 0)) ((f102 48 (of_decide_eq_true rfl)).trans (f24 48 (of_decide_eq_true rfl))) ((f102 49 (of_decide_eq_true rfl)).trans (f24 49 (of_decide_eq_true rfl))) hI47
             have I129 : jI50 σ100 := jI50_fr ((f102 52 (of_decide_eq_true rfl)).trans (f24 52 (of_decide_eq_true rfl))) hI50
             have I130 : jI101 σ100 := jI101_fr ((f103 4 (of_decide_eq_true rfl)).trans (congrFun (f24 55 (of_decide_eq_true rfl)) 4)) ((f103 5 (of_decide_eq_true rfl)).trans (congrFun (f24 55 (of_decide_eq_true rfl)) 5)) ((f102 56 (of_decide_eq_true rfl)).trans (f24 56 (of_decide_eq_true rfl))) ((f102 57 (of_decide_eq_true rfl)).trans (f24 57 (of_decide_eq_true rfl))) ((f102 58 (of_decide_eq_true rfl)).trans (f24 58 (of_decide_eq_true rfl))) ((f102 59 (of_decide_eq_true rfl)).trans (f24 59 (of_decide_eq_true rfl))) hI101
             have I131 : jI102 σ100 := jI102_fr ((f103 6 (of_decide_eq_true rfl)).trans (congrFun (f24 55 (of_decide_eq_true rfl)) 6)) ((f102 60 (of_decide_eq_true rfl)).trans (f24 60 (of_decide_eq_true rfl))) ((f102 61 (of_decide_eq_true rfl)).trans (f24 61 (of_decide_eq_true rfl))) hI102
             have I132 : jI103 σ100 := jI103_fr ((f103 9 (of_decide_eq_true rfl)).trans (congrFun (f24 55 (of_decide_eq_true rfl)) 9)) hI103
             have I133 : jI104 σ100 := jI104_fr ((f103 10 (of_decide_eq_true rfl)).trans (congrFun (f24 55 (of_decide_eq_true rfl)) 10)) ((f103 12 (of_decide_eq_true rfl)).trans (congrFun (f24 55 (of_decide_eq_true rfl)) 12)) ((f103 13 (of_decide_eq_true rfl)).trans (congrFun (f24 55 (of_decide_eq_true rfl)) 13)) ((f102 62 (of_decide_eq_true rfl)).trans (f24 62 (of_decide_eq_true rfl))) ((f102 67 (of_decide_eq_true rfl)).trans (f24 67 (of_decide_eq_true rfl))) hI104
             have I134 : jI105 σ100 := jI105_fr ((f103 15 (of_decide_eq_true rfl)).trans (congrFun (f24 55 (of_decide_eq_true rfl)) 15)) ((f102 65 (of_decide_eq_true rfl)).trans (f24 65 (of_decide_eq_true rfl))) hI105
             have I135 : jI107 σ100 := jI107_fr ((f103 12 (of_decide_eq_true rfl)).trans (congrFun (f24 55 (of_decide_eq_true rfl)) 12)) ((f103 47 (of_decide_eq_true rfl)).trans (congrFun (f24 55 (of_decide_eq_true rfl)) 47)) ((f102 80 (of_decide_eq_true rfl)).trans (f24 80 (of_decide_eq_true rfl))) hI107
             have I136 : jI109 σ100 := jI109_fr ((f103 50 (of_decide_eq_true rfl)).trans (congrFun (f24 55 (of_decide_eq_true rfl)) 50)) hI109
             have I137 : jI110 σ100 := jI110_fr ((f102 86 (of_decide_eq_true rfl)).trans (f24 86 (of_decide_eq_true rfl))) ((f102 87 (of_decide_eq_true rfl)).trans (f24 87 (of_decide_eq_true rfl))) hI110
             have I138 : jI111 σ100 := jI111_fr ((f102 79 (of_decide_eq_true rfl)).trans (f24 79 (of_decide_eq_true rfl))) hI111
             have I139 : jI119 σ100 := jI119_fr ((f102 68 (of_decide_eq_true rfl)).trans (f24 68 (of_decide_eq_true rfl))) hI119
             have p140 : jKept σ100 := jKept.fr ((f102 75 (of_decide_eq_true rfl)).trans (f24 75 (of_decide_eq_true rfl))) ((f102 76 (of_decide_eq_true rfl)).trans (f24 76 (of_decide_eq_true rfl))) ((f102 77 (of_decide_eq_true rfl)).trans (f24 77 (of_decide_eq_true rfl))) hs_jKept
             have p141 : jBook σ100 := jBook.fr ((f103 47 (of_decide_eq_true rfl)).trans (congrFun (f24 55 (of_decide_eq_true rfl)) 47)) ((f103 10 (of_decide_eq_true rfl)).trans (congrFun (f24 55 (of_decide_eq_true rfl)) 10)) ((f102 81 (of_decide_eq_true rfl)).trans (f24 81 (of_decide_eq_true rfl))) hs_jBook
             have z142 : (σ100 9 0).toInt = (σ 9 0).toInt := (congrArg Int32.toInt (show σ100 9 0 = (σ 9 0) from ((congrFun (f102 9 (of_decide_eq_true rfl)) 0).trans (congrFun (f24 9 (of_decide_eq_true rfl)) 0))))
             have z143 : (σ100 55 15).toInt = (σ 55 15).toInt := (congrArg Int32.toInt (show σ100 55 15 = (σ 55 15) from ((f103 15 (of_decide_eq_true rfl)).trans (congrFun (f24 55 (of_decide_eq_true rfl)) 15))))
             have z144 : (σ100 16 0).toInt = (σ 16 0).toInt := (congrArg Int32.toInt (show σ100 16 0 = (σ 16 0) from ((congrFun (f102 16 (of_decide_eq_true rfl)) 0).trans (congrFun (f24 16 (of_decide_eq_true rfl)) 0))))
             have z145 : (σ100 55 10).toInt = (σ 55 10).toInt := (congrArg Int32.toInt (show σ100 55 10 = (σ 55 10) from ((f103 10 (of_decide_eq_true rfl)).trans (congrFun (f24 55 (of_decide_eq_true rfl)) 10))))
             have z146 : (σ100 16 1).toInt = (σ 16 1).toInt := (congrArg Int32.toInt (show σ100 16 1 = (σ 16 1) from ((congrFun (f102 16 (of_decide_eq_true rfl)) 1).trans (congrFun (f24 16 (of_decide_eq_true rfl)) 1))))
             have z147 : (σ100 55 12).toInt = (σ 55 12).toInt := (congrArg Int32.toInt (show σ100 55 12 = (σ 55 12) from ((f103 12 (of_decide_eq_true rfl)).trans (congrFun (f24 55 (of_decide_eq_true rfl)) 12))))
             have z148 : (σ100 16 2).toInt = (σ 16 2).toInt := (congrArg Int32.toInt (show σ100 16 2 = (σ 16 2) from ((congrFun (f102 16 (of_decide_eq_true rfl)) 2).trans (congrFun (f24 16 (of_decide_eq_true rfl)) 2))))
             have z149 : (σ100 55 13).toInt = (σ 55 13).toInt := (congrArg Int32.toInt (show σ100 55 13 = (σ 55 13) from ((f103 13 (of_decide_eq_true rfl)).trans (congrFun (f24 55 (of_decide_eq_true rfl)) 13))))
             exact by exact ih x118 σ100 τ _ _ ls (by have h9 := tx118; omega) ⟨I119, I120, I121, I122, I123, I124, I125, I126, I127, I128, I129, I130, I131, I132, I133, I134, I104, I135, I136, I137, I138, I139, p140, p141, (by omega), (by omega), (by omega), (by omega), (show jTp (σ100 10) (σ100 63) (σ100 55 15).toInt by rw [show σ100 10 = σ 10 from ((f102 10 (of_decide_eq_true rfl)).trans (f24 10 (of_decide_eq_true rfl))), show σ100 63 = σ 63 from ((f102 63 (of_decide_eq_true rfl)).trans (f24 63 (of_decide_eq_true rfl)))]; exact hr0.le (by omega)), (show jSo (σ100 17) (σ100 62) (σ100 16 0).toInt by rw [show σ100 17 = σ 17 from ((f102 17 (of_decide_eq_true rfl)).trans (f24 17 (of_decide_eq_true rfl))), show σ100 62 = σ 62 from ((f102 62 (of_decide_eq_true rfl)).trans (f24 62 (of_decide_eq_true rfl))), show (σ100 16 0).toInt = (σ 16 0).toInt from by omega]; exact hr1)⟩ hP hS (lv_sub hl [0, 1, 2, 3] rfl)
         · obtain ⟨q155, k150, k151, k152, k153, k154⟩ := h108
           refine lv_pop hx hb dL_law_522 rfl ?_
           refine lv_goto (tgt := 1357) hx hb dL_law_523 (of_decide_eq_true rfl) ?_
           obtain ⟨x156, ex156⟩ : ∃ y : Int32, y = x0 + 6 := ⟨_, rfl⟩
           exact by
            have tx156 : x156.toInt = x0.toInt + 6 := (jadd ex156 rfl jz_6 (by omega) (by omega)).trans (by omega)
            refine lv_iinc (v := x156) (lv' := [(3, .int x156), (2, .ref (ad 55)), (1, .ref (ad 0)), (0, .ref b)]) hx hb dL_law_1357 hl (k := 0) rfl (by rw [ex156]; rfl) (of_decide_eq_true rfl) rfl (fun ls hl => ?_)
            refine lv_goto (tgt := 18) hx hb dL_law_1360 (of_decide_eq_true rfl) ?_
            have I157 : jI2 σ100 := jI2_fr ((congrFun (f102 2 (of_decide_eq_true rfl)) 0).trans (congrFun (f24 2 (of_decide_eq_true rfl)) 0)) ((congrFun (f102 2 (of_decide_eq_true rfl)) 1).trans (congrFun (f24 2 (of_decide_eq_true rfl)) 1)) ((congrFun (f102 2 (of_decide_eq_true rfl)) 2).trans (congrFun (f24 2 (of_decide_eq_true rfl)) 2)) ((congrFun (f102 2 (of_decide_eq_true rfl)) 3).trans (congrFun (f24 2 (of_decide_eq_true rfl)) 3)) ((f102 6 (of_decide_eq_true rfl)).trans (f24 6 (of_decide_eq_true rfl))) hI2
            have I158 : jI9 σ100 := jI9_fr ((congrFun (f102 9 (of_decide_eq_true rfl)) 0).trans (congrFun (f24 9 (of_decide_eq_true rfl)) 0)) ((f102 10 (of_decide_eq_true rfl)).trans (f24 10 (of_decide_eq_true rfl))) ((f102 11 (of_decide_eq_true rfl)).trans (f24 11 (of_decide_eq_true rfl))) hI9
            have I159 : jI12 σ100 := jI12_fr ((congrFun (f102 12 (of_decide_eq_true rfl)) 0).trans (congrFun (f24 12 (of_decide_eq_true rfl)) 0)) ((f102 13 (of_decide_eq_true rfl)).trans (f24 13 (of_decide_eq_true rfl))) hI12
            have I160 : jI16 σ100 := jI16_fr ((congrFun (f102 16 (of_decide_eq_true rfl)) 0).trans (congrFun (f24 16 (of_decide_eq_true rfl)) 0)) ((congrFun (f102 16 (of_decide_eq_true rfl)) 1).trans (congrFun (f24 16 (of_decide_eq_true rfl)) 1)) ((congrFun (f102 16 (of_decide_eq_true rfl)) 2).trans (congrFun (f24 16 (of_decide_eq_true rfl)) 2)) ((f102 17 (of_decide_eq_true rfl)).trans (f24 17 (of_decide_eq_true rfl))) hI16
            have I161 : jI18 σ100 := jI18_fr ((congrFun (f102 18 (of_decide_eq_true rfl)) 0).trans (congrFun (f24 18 (of_decide_eq_true rfl)) 0)) ((f102 19 (of_decide_eq_true rfl)).trans (f24 19 (of_decide_eq_true rfl))) hI18
            have I162 : jI22 σ100 := jI22_fr ((congrFun (f102 22 (of_decide_eq_true rfl)) 0).trans (congrFun (f24 22 (of_decide_eq_true rfl)) 0)) ((f102 23 (of_decide_eq_true rfl)).trans (f24 23 (of_decide_eq_true rfl))) hI22
            exact by
             have I163 : jI31 σ100 := jI31_fr ((congrFun (f102 31 (of_decide_eq_true rfl)) 8).trans (congrFun (f24 31 (of_decide_eq_true rfl)) 8)) ((f102 33 (of_decide_eq_true rfl)).trans (f24 33 (of_decide_eq_true rfl))) ((f102 36 (of_decide_eq_true rfl)).trans (f24 36 (of_decide_eq_true rfl))) hI31
             have I164 : jI38 σ100 := jI38_fr (congrFun (f102 38 (of_decide_eq_true rfl)) 0) (congrFun (f102 38 (of_decide_eq_true rfl)) 1) (f102 39 (of_decide_eq_true rfl)) I26
             have I165 : jI43 σ100 := jI43_fr ((congrFun (f102 43 (of_decide_eq_true rfl)) 8).trans (congrFun (f24 43 (of_decide_eq_true rfl)) 8)) hI43
             have I166 : jI47 σ100 := jI47_fr ((congrFun (f102 47 (of_decide_eq_true rfl)) 0).trans (congrFun (f24 47 (of_decide_eq_true rfl)) 0)) ((f102 48 (of_decide_eq_true rfl)).trans (f24 48 (of_decide_eq_true rfl))) ((f102 49 (of_decide_eq_true rfl)).trans (f24 49 (of_decide_eq_true rfl))) hI47
             have I167 : jI50 σ100 := jI50_fr ((f102 52 (of_decide_eq_true rfl)).trans (f24 52 (of_decide_eq_true rfl))) hI50
             have I168 : jI101 σ100 := jI101_fr ((f103 4 (of_decide_eq_true rfl)).trans (congrFun (f24 55 (of_decide_eq_true rfl)) 4)) ((f103 5 (of_decide_eq_true rfl)).trans (congrFun (f24 55 (of_decide_eq_true rfl)) 5)) ((f102 56 (of_decide_eq_true rfl)).trans (f24 56 (of_decide_eq_true rfl))) ((f102 57 (of_decide_eq_true rfl)).trans (f24 57 (of_decide_eq_true rfl))) ((f102 58 (of_decide_eq_true rfl)).trans (f24 58 (of_decide_eq_true rfl))) ((f102 59 (of_decide_eq_true rfl)).trans (f24 59 (of_decide_eq_true rfl))) hI101
             have I169 : jI102 σ100 := jI102_fr ((f103 6 (of_decide_eq_true rfl)).trans (congrFun (f24 55 (of_decide_eq_true rfl)) 6)) ((f102 60 (of_decide_eq_true rfl)).trans (f24 60 (of_decide_eq_true rfl))) ((f102 61 (of_decide_eq_true rfl)).trans (f24 61 (of_decide_eq_true rfl))) hI102
             have I170 : jI103 σ100 := jI103_fr ((f103 9 (of_decide_eq_true rfl)).trans (congrFun (f24 55 (of_decide_eq_true rfl)) 9)) hI103
             have I171 : jI104 σ100 := jI104_fr ((f103 10 (of_decide_eq_true rfl)).trans (congrFun (f24 55 (of_decide_eq_true rfl)) 10)) ((f103 12 (of_decide_eq_true rfl)).trans (congrFun (f24 55 (of_decide_eq_true rfl)) 12)) ((f103 13 (of_decide_eq_true rfl)).trans (congrFun (f24 55 (of_decide_eq_true rfl)) 13)) ((f102 62 (of_decide_eq_true rfl)).trans (f24 62 (of_decide_eq_true rfl))) ((f102 67 (of_decide_eq_true rfl)).trans (f24 67 (of_decide_eq_true rfl))) hI104
             have I172 : jI105 σ100 := jI105_fr ((f103 15 (of_decide_eq_true rfl)).trans (congrFun (f24 55 (of_decide_eq_true rfl)) 15)) ((f102 65 (of_decide_eq_true rfl)).trans (f24 65 (of_decide_eq_true rfl))) hI105
             have I173 : jI107 σ100 := jI107_fr ((f103 12 (of_decide_eq_true rfl)).trans (congrFun (f24 55 (of_decide_eq_true rfl)) 12)) ((f103 47 (of_decide_eq_true rfl)).trans (congrFun (f24 55 (of_decide_eq_true rfl)) 47)) ((f102 80 (of_decide_eq_true rfl)).trans (f24 80 (of_decide_eq_true rfl))) hI107
             have I174 : jI109 σ100 := jI109_fr ((f103 50 (of_decide_eq_true rfl)).trans (congrFun (f24 55 (of_decide_eq_true rfl)) 50)) hI109
             have I175 : jI110 σ100 := jI110_fr ((f102 86 (of_decide_eq_true rfl)).trans (f24 86 (of_decide_eq_true rfl))) ((f102 87 (of_decide_eq_true rfl)).trans (f24 87 (of_decide_eq_true rfl))) hI110
             have I176 : jI111 σ100 := jI111_fr ((f102 79 (of_decide_eq_true rfl)).trans (f24 79 (of_decide_eq_true rfl))) hI111
             have I177 : jI119 σ100 := jI119_fr ((f102 68 (of_decide_eq_true rfl)).trans (f24 68 (of_decide_eq_true rfl))) hI119
             have p178 : jKept σ100 := jKept.fr ((f102 75 (of_decide_eq_true rfl)).trans (f24 75 (of_decide_eq_true rfl))) ((f102 76 (of_decide_eq_true rfl)).trans (f24 76 (of_decide_eq_true rfl))) ((f102 77 (of_decide_eq_true rfl)).trans (f24 77 (of_decide_eq_true rfl))) hs_jKept
             have p179 : jBook σ100 := jBook.fr ((f103 47 (of_decide_eq_true rfl)).trans (congrFun (f24 55 (of_decide_eq_true rfl)) 47)) ((f103 10 (of_decide_eq_true rfl)).trans (congrFun (f24 55 (of_decide_eq_true rfl)) 10)) ((f102 81 (of_decide_eq_true rfl)).trans (f24 81 (of_decide_eq_true rfl))) hs_jBook
             have z180 : (σ100 9 0).toInt = (σ 9 0).toInt := (congrArg Int32.toInt (show σ100 9 0 = (σ 9 0) from ((congrFun (f102 9 (of_decide_eq_true rfl)) 0).trans (congrFun (f24 9 (of_decide_eq_true rfl)) 0))))
             have z181 : (σ100 55 15).toInt = (σ 55 15).toInt := (congrArg Int32.toInt (show σ100 55 15 = (σ 55 15) from ((f103 15 (of_decide_eq_true rfl)).trans (congrFun (f24 55 (of_decide_eq_true rfl)) 15))))
             have z182 : (σ100 16 0).toInt = (σ 16 0).toInt := (congrArg Int32.toInt (show σ100 16 0 = (σ 16 0) from ((congrFun (f102 16 (of_decide_eq_true rfl)) 0).trans (congrFun (f24 16 (of_decide_eq_true rfl)) 0))))
             have z183 : (σ100 55 10).toInt = (σ 55 10).toInt := (congrArg Int32.toInt (show σ100 55 10 = (σ 55 10) from ((f103 10 (of_decide_eq_true rfl)).trans (congrFun (f24 55 (of_decide_eq_true rfl)) 10))))
             have z184 : (σ100 16 1).toInt = (σ 16 1).toInt := (congrArg Int32.toInt (show σ100 16 1 = (σ 16 1) from ((congrFun (f102 16 (of_decide_eq_true rfl)) 1).trans (congrFun (f24 16 (of_decide_eq_true rfl)) 1))))
             have z185 : (σ100 55 12).toInt = (σ 55 12).toInt := (congrArg Int32.toInt (show σ100 55 12 = (σ 55 12) from ((f103 12 (of_decide_eq_true rfl)).trans (congrFun (f24 55 (of_decide_eq_true rfl)) 12))))
             have z186 : (σ100 16 2).toInt = (σ 16 2).toInt := (congrArg Int32.toInt (show σ100 16 2 = (σ 16 2) from ((congrFun (f102 16 (of_decide_eq_true rfl)) 2).trans (congrFun (f24 16 (of_decide_eq_true rfl)) 2))))
             have z187 : (σ100 55 13).toInt = (σ 55 13).toInt := (congrArg Int32.toInt (show σ100 55 13 = (σ 55 13) from ((f103 13 (of_decide_eq_true rfl)).trans (congrFun (f24 55 (of_decide_eq_true rfl)) 13))))
             exact by exact ih x156 σ100 τ _ _ ls (by have h9 := tx156; omega) ⟨I157, I158, I159, I160, I161, I162, I163, I164, I165, I166, I167, I168, I169, I170, I171, I172, I104, I173, I174, I175, I176, I177, p178, p179, (by omega), (by omega), (by omega), (by omega), (show jTp (σ100 10) (σ100 63) (σ100 55 15).toInt by rw [show σ100 10 = σ 10 from ((f102 10 (of_decide_eq_true rfl)).trans (f24 10 (of_decide_eq_true rfl))), show σ100 63 = σ 63 from ((f102 63 (of_decide_eq_true rfl)).trans (f24 63 (of_decide_eq_true rfl)))]; exact hr0.le (by omega)), (show jSo (σ100 17) (σ100 62) (σ100 16 0).toInt by rw [show σ100 17 = σ 17 from ((f102 17 (of_decide_eq_true rfl)).trans (f24 17 (of_decide_eq_true rfl))), show σ100 62 = σ 62 from ((f102 62 (of_decide_eq_true rfl)).trans (f24 62 (of_decide_eq_true rfl))), show (σ100 16 0).toInt = (σ 16 0).toInt from by omega]; exact hr1)⟩ hP hS (lv_sub hl [0, 1, 2, 3] rfl)
     · obtain ⟨q193, k188, k189, k190, k191, k192⟩ := h30
       refine lv_pop hx hb dL_law_502 rfl ?_
       refine lv_aload_n hx hb dL_law_503 rfl (lv_at hl 1 rfl) ?_
       refine lv_aload_n hx hb dL_law_504 rfl (lv_at hl 3 rfl) ?_
       refine lv_iload_n hx hb dL_law_505 rfl (lv_at hl 0 rfl) ?_
       refine lv_iconst (v := 1) hx hb dL_law_506 (of_decide_eq_true rfl) ?_
       refine lv_iadd hx hb dL_law_507 ?_
       refine jtopr ex16.symm ?_
       exact by
        refine va_sld hx hb hX hbl hbA hS (jin tx16 (by omega) (by omega)) dL_law_508 ?_
        refine lv_aload_n hx hb dL_law_509 rfl (lv_at hl 3 rfl) ?_
        refine lv_iload_n hx hb dL_law_510 rfl (lv_at hl 0 rfl) ?_
        refine lv_iconst (v := 2) hx hb dL_law_511 (of_decide_eq_true rfl) ?_
        refine lv_iadd hx hb dL_law_512 ?_
        refine jtopr ex18.symm ?_
        refine va_sld hx hb hX hbl hbA hS (jin tx18 (by omega) (by omega)) dL_law_513 ?_
        refine lv_aload_n hx hb dL_law_514 rfl (lv_at hl 3 rfl) ?_
        refine lv_iload_n hx hb dL_law_515 rfl (lv_at hl 0 rfl) ?_
        exact by
         refine lv_iconst (v := 3) hx hb dL_law_516 (of_decide_eq_true rfl) ?_
         refine lv_iadd hx hb dL_law_517 ?_
         refine jtopr ex20.symm ?_
         refine va_sld hx hb hX hbl hbA hS (jin tx20 (by omega) (by omega)) dL_law_518 ?_
         have I194 : jI106 σ22 := jI106_fr (congrFun (f24 55 (of_decide_eq_true rfl)) 32) (f24 70 (of_decide_eq_true rfl)) (f24 71 (of_decide_eq_true rfl)) (f24 72 (of_decide_eq_true rfl)) hI106
         have z195 : (σ22 55 32).toInt = (σ 55 32).toInt := (congrArg Int32.toInt (show σ22 55 32 = (σ 55 32) from (congrFun (f24 55 (of_decide_eq_true rfl)) 32)))
         refine jcallV (As := [.int (xs x16.toNatClampNeg), .int (xs x18.toNatClampNeg), .int (xs x20.toNatClampNeg)]) (rest := []) ⟨hx, hb, hml, hown, hts⟩ hK hP hA hS hZ (c_X12_rule l D cI cL ad zz hJ σ22 τ (xs x16.toNatClampNeg) ((xs x16.toNatClampNeg).toInt) rfl (xs x18.toNatClampNeg) ((xs x18.toNatClampNeg).toInt) rfl (xs x20.toNatClampNeg) ((xs x20.toNatClampNeg).toInt) rfl I194) cw_RL_56 (jc_55 cI cL ad σ22 τ) rfl ⟨Nat.le_of_ble_eq_true rfl, Nat.le_of_ble_eq_true rfl⟩ rfl rfl rfl hl.1 rfl (Nat.le_of_ble_eq_true rfl) dL_law_519 ⟨Nat.le_of_ble_eq_true rfl, Nat.le_of_ble_eq_true rfl⟩ (fun r197 σ196 τ196 H locs h196 hP hS => ?_)
         obtain ⟨rfl, f198, f199, I200, h196⟩ := h196
         rcases h196 with h202 | h203 | h204
         · exact by
            obtain ⟨q208, k205, k206, k207⟩ := h202
            have q208 := q208.symm
            subst q208
            exact absurd k191 k206
         · obtain ⟨q213, k209, k210, k211, k212⟩ := h203
           have q213 := q213.symm
           subst q213
           refine lv_pop hx hb dL_law_522 rfl ?_
           refine lv_goto (tgt := 1357) hx hb dL_law_523 (of_decide_eq_true rfl) ?_
           obtain ⟨x214, ex214⟩ : ∃ y : Int32, y = x0 + 6 := ⟨_, rfl⟩
           exact by
            have tx214 : x214.toInt = x0.toInt + 6 := (jadd ex214 rfl jz_6 (by omega) (by omega)).trans (by omega)
            refine lv_iinc (v := x214) (lv' := [(3, .int x214), (2, .ref (ad 55)), (1, .ref (ad 0)), (0, .ref b)]) hx hb dL_law_1357 hl (k := 0) rfl (by rw [ex214]; rfl) (of_decide_eq_true rfl) rfl (fun ls hl => ?_)
            refine lv_goto (tgt := 18) hx hb dL_law_1360 (of_decide_eq_true rfl) ?_
            have I215 : jI2 σ196 := jI2_fr ((congrFun (f198 2 (of_decide_eq_true rfl)) 0).trans (congrFun (f24 2 (of_decide_eq_true rfl)) 0)) ((congrFun (f198 2 (of_decide_eq_true rfl)) 1).trans (congrFun (f24 2 (of_decide_eq_true rfl)) 1)) ((congrFun (f198 2 (of_decide_eq_true rfl)) 2).trans (congrFun (f24 2 (of_decide_eq_true rfl)) 2)) ((congrFun (f198 2 (of_decide_eq_true rfl)) 3).trans (congrFun (f24 2 (of_decide_eq_true rfl)) 3)) ((f198 6 (of_decide_eq_true rfl)).trans (f24 6 (of_decide_eq_true rfl))) hI2
            have I216 : jI9 σ196 := jI9_fr ((congrFun (f198 9 (of_decide_eq_true rfl)) 0).trans (congrFun (f24 9 (of_decide_eq_true rfl)) 0)) ((f198 10 (of_decide_eq_true rfl)).trans (f24 10 (of_decide_eq_true rfl))) ((f198 11 (of_decide_eq_true rfl)).trans (f24 11 (of_decide_eq_true rfl))) hI9
            have I217 : jI12 σ196 := jI12_fr ((congrFun (f198 12 (of_decide_eq_true rfl)) 0).trans (congrFun (f24 12 (of_decide_eq_true rfl)) 0)) ((f198 13 (of_decide_eq_true rfl)).trans (f24 13 (of_decide_eq_true rfl))) hI12
            have I218 : jI16 σ196 := jI16_fr ((congrFun (f198 16 (of_decide_eq_true rfl)) 0).trans (congrFun (f24 16 (of_decide_eq_true rfl)) 0)) ((congrFun (f198 16 (of_decide_eq_true rfl)) 1).trans (congrFun (f24 16 (of_decide_eq_true rfl)) 1)) ((congrFun (f198 16 (of_decide_eq_true rfl)) 2).trans (congrFun (f24 16 (of_decide_eq_true rfl)) 2)) ((f198 17 (of_decide_eq_true rfl)).trans (f24 17 (of_decide_eq_true rfl))) hI16
            have I219 : jI18 σ196 := jI18_fr ((congrFun (f198 18 (of_decide_eq_true rfl)) 0).trans (congrFun (f24 18 (of_decide_eq_true rfl)) 0)) ((f198 19 (of_decide_eq_true rfl)).trans (f24 19 (of_decide_eq_true rfl))) hI18
            have I220 : jI22 σ196 := jI22_fr ((congrFun (f198 22 (of_decide_eq_true rfl)) 0).trans (congrFun (f24 22 (of_decide_eq_true rfl)) 0)) ((f198 23 (of_decide_eq_true rfl)).trans (f24 23 (of_decide_eq_true rfl))) hI22
            exact by
             have I221 : jI31 σ196 := jI31_fr ((congrFun (f198 31 (of_decide_eq_true rfl)) 8).trans (congrFun (f24 31 (of_decide_eq_true rfl)) 8)) ((f198 33 (of_decide_eq_true rfl)).trans (f24 33 (of_decide_eq_true rfl))) ((f198 36 (of_decide_eq_true rfl)).trans (f24 36 (of_decide_eq_true rfl))) hI31
             have I222 : jI38 σ196 := jI38_fr (congrFun (f198 38 (of_decide_eq_true rfl)) 0) (congrFun (f198 38 (of_decide_eq_true rfl)) 1) (f198 39 (of_decide_eq_true rfl)) I26
             have I223 : jI43 σ196 := jI43_fr ((congrFun (f198 43 (of_decide_eq_true rfl)) 8).trans (congrFun (f24 43 (of_decide_eq_true rfl)) 8)) hI43
             have I224 : jI47 σ196 := jI47_fr ((congrFun (f198 47 (of_decide_eq_true rfl)) 0).trans (congrFun (f24 47 (of_decide_eq_true rfl)) 0)) ((f198 48 (of_decide_eq_true rfl)).trans (f24 48 (of_decide_eq_true rfl))) ((f198 49 (of_decide_eq_true rfl)).trans (f24 49 (of_decide_eq_true rfl))) hI47
             have I225 : jI50 σ196 := jI50_fr ((f198 52 (of_decide_eq_true rfl)).trans (f24 52 (of_decide_eq_true rfl))) hI50
             have I226 : jI101 σ196 := jI101_fr ((f199 4 (of_decide_eq_true rfl)).trans (congrFun (f24 55 (of_decide_eq_true rfl)) 4)) ((f199 5 (of_decide_eq_true rfl)).trans (congrFun (f24 55 (of_decide_eq_true rfl)) 5)) ((f198 56 (of_decide_eq_true rfl)).trans (f24 56 (of_decide_eq_true rfl))) ((f198 57 (of_decide_eq_true rfl)).trans (f24 57 (of_decide_eq_true rfl))) ((f198 58 (of_decide_eq_true rfl)).trans (f24 58 (of_decide_eq_true rfl))) ((f198 59 (of_decide_eq_true rfl)).trans (f24 59 (of_decide_eq_true rfl))) hI101
             have I227 : jI102 σ196 := jI102_fr ((f199 6 (of_decide_eq_true rfl)).trans (congrFun (f24 55 (of_decide_eq_true rfl)) 6)) ((f198 60 (of_decide_eq_true rfl)).trans (f24 60 (of_decide_eq_true rfl))) ((f198 61 (of_decide_eq_true rfl)).trans (f24 61 (of_decide_eq_true rfl))) hI102
             have I228 : jI103 σ196 := jI103_fr ((f199 9 (of_decide_eq_true rfl)).trans (congrFun (f24 55 (of_decide_eq_true rfl)) 9)) hI103
             have I229 : jI104 σ196 := jI104_fr ((f199 10 (of_decide_eq_true rfl)).trans (congrFun (f24 55 (of_decide_eq_true rfl)) 10)) ((f199 12 (of_decide_eq_true rfl)).trans (congrFun (f24 55 (of_decide_eq_true rfl)) 12)) ((f199 13 (of_decide_eq_true rfl)).trans (congrFun (f24 55 (of_decide_eq_true rfl)) 13)) ((f198 62 (of_decide_eq_true rfl)).trans (f24 62 (of_decide_eq_true rfl))) ((f198 67 (of_decide_eq_true rfl)).trans (f24 67 (of_decide_eq_true rfl))) hI104
             have I230 : jI105 σ196 := jI105_fr ((f199 15 (of_decide_eq_true rfl)).trans (congrFun (f24 55 (of_decide_eq_true rfl)) 15)) ((f198 65 (of_decide_eq_true rfl)).trans (f24 65 (of_decide_eq_true rfl))) hI105
             have I231 : jI107 σ196 := jI107_fr ((f199 12 (of_decide_eq_true rfl)).trans (congrFun (f24 55 (of_decide_eq_true rfl)) 12)) ((f199 47 (of_decide_eq_true rfl)).trans (congrFun (f24 55 (of_decide_eq_true rfl)) 47)) ((f198 80 (of_decide_eq_true rfl)).trans (f24 80 (of_decide_eq_true rfl))) hI107
             have I232 : jI109 σ196 := jI109_fr ((f199 50 (of_decide_eq_true rfl)).trans (congrFun (f24 55 (of_decide_eq_true rfl)) 50)) hI109
             have I233 : jI110 σ196 := jI110_fr ((f198 86 (of_decide_eq_true rfl)).trans (f24 86 (of_decide_eq_true rfl))) ((f198 87 (of_decide_eq_true rfl)).trans (f24 87 (of_decide_eq_true rfl))) hI110
             have I234 : jI111 σ196 := jI111_fr ((f198 79 (of_decide_eq_true rfl)).trans (f24 79 (of_decide_eq_true rfl))) hI111
             have I235 : jI119 σ196 := jI119_fr ((f198 68 (of_decide_eq_true rfl)).trans (f24 68 (of_decide_eq_true rfl))) hI119
             have p236 : jKept σ196 := jKept.fr ((f198 75 (of_decide_eq_true rfl)).trans (f24 75 (of_decide_eq_true rfl))) ((f198 76 (of_decide_eq_true rfl)).trans (f24 76 (of_decide_eq_true rfl))) ((f198 77 (of_decide_eq_true rfl)).trans (f24 77 (of_decide_eq_true rfl))) hs_jKept
             have p237 : jBook σ196 := jBook.fr ((f199 47 (of_decide_eq_true rfl)).trans (congrFun (f24 55 (of_decide_eq_true rfl)) 47)) ((f199 10 (of_decide_eq_true rfl)).trans (congrFun (f24 55 (of_decide_eq_true rfl)) 10)) ((f198 81 (of_decide_eq_true rfl)).trans (f24 81 (of_decide_eq_true rfl))) hs_jBook
             have z238 : (σ196 9 0).toInt = (σ 9 0).toInt := (congrArg Int32.toInt (show σ196 9 0 = (σ 9 0) from ((congrFun (f198 9 (of_decide_eq_true rfl)) 0).trans (congrFun (f24 9 (of_decide_eq_true rfl)) 0))))
             have z239 : (σ196 55 15).toInt = (σ 55 15).toInt := (congrArg Int32.toInt (show σ196 55 15 = (σ 55 15) from ((f199 15 (of_decide_eq_true rfl)).trans (congrFun (f24 55 (of_decide_eq_true rfl)) 15))))
             have z240 : (σ196 16 0).toInt = (σ 16 0).toInt := (congrArg Int32.toInt (show σ196 16 0 = (σ 16 0) from ((congrFun (f198 16 (of_decide_eq_true rfl)) 0).trans (congrFun (f24 16 (of_decide_eq_true rfl)) 0))))
             have z241 : (σ196 55 10).toInt = (σ 55 10).toInt := (congrArg Int32.toInt (show σ196 55 10 = (σ 55 10) from ((f199 10 (of_decide_eq_true rfl)).trans (congrFun (f24 55 (of_decide_eq_true rfl)) 10))))
             have z242 : (σ196 16 1).toInt = (σ 16 1).toInt := (congrArg Int32.toInt (show σ196 16 1 = (σ 16 1) from ((congrFun (f198 16 (of_decide_eq_true rfl)) 1).trans (congrFun (f24 16 (of_decide_eq_true rfl)) 1))))
             have z243 : (σ196 55 12).toInt = (σ 55 12).toInt := (congrArg Int32.toInt (show σ196 55 12 = (σ 55 12) from ((f199 12 (of_decide_eq_true rfl)).trans (congrFun (f24 55 (of_decide_eq_true rfl)) 12))))
             have z244 : (σ196 16 2).toInt = (σ 16 2).toInt := (congrArg Int32.toInt (show σ196 16 2 = (σ 16 2) from ((congrFun (f198 16 (of_decide_eq_true rfl)) 2).trans (congrFun (f24 16 (of_decide_eq_true rfl)) 2))))
             have z245 : (σ196 55 13).toInt = (σ 55 13).toInt := (congrArg Int32.toInt (show σ196 55 13 = (σ 55 13) from ((f199 13 (of_decide_eq_true rfl)).trans (congrFun (f24 55 (of_decide_eq_true rfl)) 13))))
             exact by exact ih x214 σ196 τ _ _ ls (by have h9 := tx214; omega) ⟨I215, I216, I217, I218, I219, I220, I221, I222, I223, I224, I225, I226, I227, I228, I229, I230, I200, I231, I232, I233, I234, I235, p236, p237, (by omega), (by omega), (by omega), (by omega), (show jTp (σ196 10) (σ196 63) (σ196 55 15).toInt by rw [show σ196 10 = σ 10 from ((f198 10 (of_decide_eq_true rfl)).trans (f24 10 (of_decide_eq_true rfl))), show σ196 63 = σ 63 from ((f198 63 (of_decide_eq_true rfl)).trans (f24 63 (of_decide_eq_true rfl)))]; exact hr0.le (by omega)), (show jSo (σ196 17) (σ196 62) (σ196 16 0).toInt by rw [show σ196 17 = σ 17 from ((f198 17 (of_decide_eq_true rfl)).trans (f24 17 (of_decide_eq_true rfl))), show σ196 62 = σ 62 from ((f198 62 (of_decide_eq_true rfl)).trans (f24 62 (of_decide_eq_true rfl))), show (σ196 16 0).toInt = (σ 16 0).toInt from by omega]; exact hr1)⟩ hP hS (lv_sub hl [0, 1, 2, 3] rfl)
         · obtain ⟨q251, k246, k247, k248, k249, k250⟩ := h204
           refine lv_pop hx hb dL_law_522 rfl ?_
           refine lv_goto (tgt := 1357) hx hb dL_law_523 (of_decide_eq_true rfl) ?_
           obtain ⟨x252, ex252⟩ : ∃ y : Int32, y = x0 + 6 := ⟨_, rfl⟩
           exact by
            have tx252 : x252.toInt = x0.toInt + 6 := (jadd ex252 rfl jz_6 (by omega) (by omega)).trans (by omega)
            refine lv_iinc (v := x252) (lv' := [(3, .int x252), (2, .ref (ad 55)), (1, .ref (ad 0)), (0, .ref b)]) hx hb dL_law_1357 hl (k := 0) rfl (by rw [ex252]; rfl) (of_decide_eq_true rfl) rfl (fun ls hl => ?_)
            refine lv_goto (tgt := 18) hx hb dL_law_1360 (of_decide_eq_true rfl) ?_
            have I253 : jI2 σ196 := jI2_fr ((congrFun (f198 2 (of_decide_eq_true rfl)) 0).trans (congrFun (f24 2 (of_decide_eq_true rfl)) 0)) ((congrFun (f198 2 (of_decide_eq_true rfl)) 1).trans (congrFun (f24 2 (of_decide_eq_true rfl)) 1)) ((congrFun (f198 2 (of_decide_eq_true rfl)) 2).trans (congrFun (f24 2 (of_decide_eq_true rfl)) 2)) ((congrFun (f198 2 (of_decide_eq_true rfl)) 3).trans (congrFun (f24 2 (of_decide_eq_true rfl)) 3)) ((f198 6 (of_decide_eq_true rfl)).trans (f24 6 (of_decide_eq_true rfl))) hI2
            have I254 : jI9 σ196 := jI9_fr ((congrFun (f198 9 (of_decide_eq_true rfl)) 0).trans (congrFun (f24 9 (of_decide_eq_true rfl)) 0)) ((f198 10 (of_decide_eq_true rfl)).trans (f24 10 (of_decide_eq_true rfl))) ((f198 11 (of_decide_eq_true rfl)).trans (f24 11 (of_decide_eq_true rfl))) hI9
            have I255 : jI12 σ196 := jI12_fr ((congrFun (f198 12 (of_decide_eq_true rfl)) 0).trans (congrFun (f24 12 (of_decide_eq_true rfl)) 0)) ((f198 13 (of_decide_eq_true rfl)).trans (f24 13 (of_decide_eq_true rfl))) hI12
            have I256 : jI16 σ196 := jI16_fr ((congrFun (f198 16 (of_decide_eq_true rfl)) 0).trans (congrFun (f24 16 (of_decide_eq_true rfl)) 0)) ((congrFun (f198 16 (of_decide_eq_true rfl)) 1).trans (congrFun (f24 16 (of_decide_eq_true rfl)) 1)) ((congrFun (f198 16 (of_decide_eq_true rfl)) 2).trans (congrFun (f24 16 (of_decide_eq_true rfl)) 2)) ((f198 17 (of_decide_eq_true rfl)).trans (f24 17 (of_decide_eq_true rfl))) hI16
            have I257 : jI18 σ196 := jI18_fr ((congrFun (f198 18 (of_decide_eq_true rfl)) 0).trans (congrFun (f24 18 (of_decide_eq_true rfl)) 0)) ((f198 19 (of_decide_eq_true rfl)).trans (f24 19 (of_decide_eq_true rfl))) hI18
            have I258 : jI22 σ196 := jI22_fr ((congrFun (f198 22 (of_decide_eq_true rfl)) 0).trans (congrFun (f24 22 (of_decide_eq_true rfl)) 0)) ((f198 23 (of_decide_eq_true rfl)).trans (f24 23 (of_decide_eq_true rfl))) hI22
            exact by
             have I259 : jI31 σ196 := jI31_fr ((congrFun (f198 31 (of_decide_eq_true rfl)) 8).trans (congrFun (f24 31 (of_decide_eq_true rfl)) 8)) ((f198 33 (of_decide_eq_true rfl)).trans (f24 33 (of_decide_eq_true rfl))) ((f198 36 (of_decide_eq_true rfl)).trans (f24 36 (of_decide_eq_true rfl))) hI31
             have I260 : jI38 σ196 := jI38_fr (congrFun (f198 38 (of_decide_eq_true rfl)) 0) (congrFun (f198 38 (of_decide_eq_true rfl)) 1) (f198 39 (of_decide_eq_true rfl)) I26
             have I261 : jI43 σ196 := jI43_fr ((congrFun (f198 43 (of_decide_eq_true rfl)) 8).trans (congrFun (f24 43 (of_decide_eq_true rfl)) 8)) hI43
             have I262 : jI47 σ196 := jI47_fr ((congrFun (f198 47 (of_decide_eq_true rfl)) 0).trans (congrFun (f24 47 (of_decide_eq_true rfl)) 0)) ((f198 48 (of_decide_eq_true rfl)).trans (f24 48 (of_decide_eq_true rfl))) ((f198 49 (of_decide_eq_true rfl)).trans (f24 49 (of_decide_eq_true rfl))) hI47
             have I263 : jI50 σ196 := jI50_fr ((f198 52 (of_decide_eq_true rfl)).trans (f24 52 (of_decide_eq_true rfl))) hI50
             have I264 : jI101 σ196 := jI101_fr ((f199 4 (of_decide_eq_true rfl)).trans (congrFun (f24 55 (of_decide_eq_true rfl)) 4)) ((f199 5 (of_decide_eq_true rfl)).trans (congrFun (f24 55 (of_decide_eq_true rfl)) 5)) ((f198 56 (of_decide_eq_true rfl)).trans (f24 56 (of_decide_eq_true rfl))) ((f198 57 (of_decide_eq_true rfl)).trans (f24 57 (of_decide_eq_true rfl))) ((f198 58 (of_decide_eq_true rfl)).trans (f24 58 (of_decide_eq_true rfl))) ((f198 59 (of_decide_eq_true rfl)).trans (f24 59 (of_decide_eq_true rfl))) hI101
             have I265 : jI102 σ196 := jI102_fr ((f199 6 (of_decide_eq_true rfl)).trans (congrFun (f24 55 (of_decide_eq_true rfl)) 6)) ((f198 60 (of_decide_eq_true rfl)).trans (f24 60 (of_decide_eq_true rfl))) ((f198 61 (of_decide_eq_true rfl)).trans (f24 61 (of_decide_eq_true rfl))) hI102
             have I266 : jI103 σ196 := jI103_fr ((f199 9 (of_decide_eq_true rfl)).trans (congrFun (f24 55 (of_decide_eq_true rfl)) 9)) hI103
             have I267 : jI104 σ196 := jI104_fr ((f199 10 (of_decide_eq_true rfl)).trans (congrFun (f24 55 (of_decide_eq_true rfl)) 10)) ((f199 12 (of_decide_eq_true rfl)).trans (congrFun (f24 55 (of_decide_eq_true rfl)) 12)) ((f199 13 (of_decide_eq_true rfl)).trans (congrFun (f24 55 (of_decide_eq_true rfl)) 13)) ((f198 62 (of_decide_eq_true rfl)).trans (f24 62 (of_decide_eq_true rfl))) ((f198 67 (of_decide_eq_true rfl)).trans (f24 67 (of_decide_eq_true rfl))) hI104
             have I268 : jI105 σ196 := jI105_fr ((f199 15 (of_decide_eq_true rfl)).trans (congrFun (f24 55 (of_decide_eq_true rfl)) 15)) ((f198 65 (of_decide_eq_true rfl)).trans (f24 65 (of_decide_eq_true rfl))) hI105
             have I269 : jI107 σ196 := jI107_fr ((f199 12 (of_decide_eq_true rfl)).trans (congrFun (f24 55 (of_decide_eq_true rfl)) 12)) ((f199 47 (of_decide_eq_true rfl)).trans (congrFun (f24 55 (of_decide_eq_true rfl)) 47)) ((f198 80 (of_decide_eq_true rfl)).trans (f24 80 (of_decide_eq_true rfl))) hI107
             have I270 : jI109 σ196 := jI109_fr ((f199 50 (of_decide_eq_true rfl)).trans (congrFun (f24 55 (of_decide_eq_true rfl)) 50)) hI109
             have I271 : jI110 σ196 := jI110_fr ((f198 86 (of_decide_eq_true rfl)).trans (f24 86 (of_decide_eq_true rfl))) ((f198 87 (of_decide_eq_true rfl)).trans (f24 87 (of_decide_eq_true rfl))) hI110
             have I272 : jI111 σ196 := jI111_fr ((f198 79 (of_decide_eq_true rfl)).trans (f24 79 (of_decide_eq_true rfl))) hI111
             have I273 : jI119 σ196 := jI119_fr ((f198 68 (of_decide_eq_true rfl)).trans (f24 68 (of_decide_eq_true rfl))) hI119
             have p274 : jKept σ196 := jKept.fr ((f198 75 (of_decide_eq_true rfl)).trans (f24 75 (of_decide_eq_true rfl))) ((f198 76 (of_decide_eq_true rfl)).trans (f24 76 (of_decide_eq_true rfl))) ((f198 77 (of_decide_eq_true rfl)).trans (f24 77 (of_decide_eq_true rfl))) hs_jKept
             have p275 : jBook σ196 := jBook.fr ((f199 47 (of_decide_eq_true rfl)).trans (congrFun (f24 55 (of_decide_eq_true rfl)) 47)) ((f199 10 (of_decide_eq_true rfl)).trans (congrFun (f24 55 (of_decide_eq_true rfl)) 10)) ((f198 81 (of_decide_eq_true rfl)).trans (f24 81 (of_decide_eq_true rfl))) hs_jBook
             have z276 : (σ196 9 0).toInt = (σ 9 0).toInt := (congrArg Int32.toInt (show σ196 9 0 = (σ 9 0) from ((congrFun (f198 9 (of_decide_eq_true rfl)) 0).trans (congrFun (f24 9 (of_decide_eq_true rfl)) 0))))
             have z277 : (σ196 55 15).toInt = (σ 55 15).toInt := (congrArg Int32.toInt (show σ196 55 15 = (σ 55 15) from ((f199 15 (of_decide_eq_true rfl)).trans (congrFun (f24 55 (of_decide_eq_true rfl)) 15))))
             have z278 : (σ196 16 0).toInt = (σ 16 0).toInt := (congrArg Int32.toInt (show σ196 16 0 = (σ 16 0) from ((congrFun (f198 16 (of_decide_eq_true rfl)) 0).trans (congrFun (f24 16 (of_decide_eq_true rfl)) 0))))
             have z279 : (σ196 55 10).toInt = (σ 55 10).toInt := (congrArg Int32.toInt (show σ196 55 10 = (σ 55 10) from ((f199 10 (of_decide_eq_true rfl)).trans (congrFun (f24 55 (of_decide_eq_true rfl)) 10))))
             have z280 : (σ196 16 1).toInt = (σ 16 1).toInt := (congrArg Int32.toInt (show σ196 16 1 = (σ 16 1) from ((congrFun (f198 16 (of_decide_eq_true rfl)) 1).trans (congrFun (f24 16 (of_decide_eq_true rfl)) 1))))
             have z281 : (σ196 55 12).toInt = (σ 55 12).toInt := (congrArg Int32.toInt (show σ196 55 12 = (σ 55 12) from ((f199 12 (of_decide_eq_true rfl)).trans (congrFun (f24 55 (of_decide_eq_true rfl)) 12))))
             have z282 : (σ196 16 2).toInt = (σ 16 2).toInt := (congrArg Int32.toInt (show σ196 16 2 = (σ 16 2) from ((congrFun (f198 16 (of_decide_eq_true rfl)) 2).trans (congrFun (f24 16 (of_decide_eq_true rfl)) 2))))
             have z283 : (σ196 55 13).toInt = (σ 55 13).toInt := (congrArg Int32.toInt (show σ196 55 13 = (σ 55 13) from ((f199 13 (of_decide_eq_true rfl)).trans (congrFun (f24 55 (of_decide_eq_true rfl)) 13))))
             exact by exact ih x252 σ196 τ _ _ ls (by have h9 := tx252; omega) ⟨I253, I254, I255, I256, I257, I258, I259, I260, I261, I262, I263, I264, I265, I266, I267, I268, I200, I269, I270, I271, I272, I273, p274, p275, (by omega), (by omega), (by omega), (by omega), (show jTp (σ196 10) (σ196 63) (σ196 55 15).toInt by rw [show σ196 10 = σ 10 from ((f198 10 (of_decide_eq_true rfl)).trans (f24 10 (of_decide_eq_true rfl))), show σ196 63 = σ 63 from ((f198 63 (of_decide_eq_true rfl)).trans (f24 63 (of_decide_eq_true rfl)))]; exact hr0.le (by omega)), (show jSo (σ196 17) (σ196 62) (σ196 16 0).toInt by rw [show σ196 17 = σ 17 from ((f198 17 (of_decide_eq_true rfl)).trans (f24 17 (of_decide_eq_true rfl))), show σ196 62 = σ 62 from ((f198 62 (of_decide_eq_true rfl)).trans (f24 62 (of_decide_eq_true rfl))), show (σ196 16 0).toInt = (σ 16 0).toInt from by omega]; exact hr1)⟩ hP hS (lv_sub hl [0, 1, 2, 3] rfl)
set_option maxHeartbeats 4000000 in
set_option maxRecDepth 100000 in
theorem law_case_10 {p : Program} {e : Env} {s : State} {m : MethodId} {below : List Frame} {meth : Method} {c : Code} (l : Launch) {b L : Nat} {xs : Nat → Int32} {D : va_G} {cI cL : ClassId} {ad zz : Nat → Nat} (C0 : lw_At p s m meth c b L xs) (hJ : jD ad) (hA : ∀ q, jA ad q → s.heap.size ≤ q) (hK : jK D cI cL s) (hZ : jZ zz (fun q : Nat => s.heap.size ≤ q) s s.heap) {x0 : Int32} (hx0 : 0 ≤ x0.toInt) (hxL : x0.toInt + 6 ≤ (L : Int)) (hL : L ≤ 384) {σ : Nat → Nat → Int32} {τ : Nat → Nat → Int64} {H : Heap} {locs : List Loc} (hS : va_S (fun q : Nat => s.heap.size ≤ q) s.heap H locs) {ls : Array Slot} (hAll : jAll σ τ) (hP : jH D cI cL ad σ τ H) (hl : lv_has ls 4 [(3, .int x0), (2, .ref (ad 55)), (1, .ref (ad 0)), (0, .ref b)]) (ih : ∀ (x1 : Int32) (σ : Nat → Nat → Int32) (τ : Nat → Nat → Int64) (H : Heap) (locs : List Loc) (ls : Array Slot), x1.toInt = x0.toInt + 6 → jAll σ τ → jH D cI cL ad σ τ H → va_S (fun q : Nat => s.heap.size ≤ q) s.heap H locs → lv_has ls 4 [(3, .int x1), (2, .ref (ad 55)), (1, .ref (ad 0)), (0, .ref b)] → W p l e room_1 s m #[Value.ref b] below meth c H locs 90 348600 (lw_Z below #[Value.ref b] s) (F0 m 18 ls [])) : W p l e room_1 s m #[Value.ref b] below meth c H locs 90 348600 (lw_Z below #[Value.ref b] s) (F0 m 526 ls []) := by
  obtain ⟨hx, hb, hr, hml, hown, hts0, hX, hbl, hlocks, hgv⟩ := C0
  have hts : ∀ w ∈ wsL_law, w.before #[Value.ref b] s = true := fun w h => hts0 w (wsL_law_in w h)
  have hbA : ¬ (fun q : Nat => s.heap.size ≤ q) b := Nat.not_le.mpr hbl
  have hown : s.vm.findClass RL = some m.cls := hown
  obtain ⟨hI2, hI9, hI12, hI16, hI18, hI22, hI31, hI38, hI43, hI47, hI50, hI101, hI102, hI103, hI104, hI105, hI106, hI107, hI109, hI110, hI111, hI119, hs_jKept, hs_jBook, ht0, ht1, ht2, ht3, hr0, hr1⟩ := hAll
  have hL9 : (L : Int) ≤ 384 := by omega
  obtain ⟨i1, w2, w3⟩ : (0 ≤ (σ 9 0).toInt ∧ (σ 9 0).toInt ≤ 80) ∧ (∀ k : Nat, k < 80 → 0 ≤ (σ 10 k).toInt ∧ (σ 10 k).toInt ≤ 255) ∧ (∀ k : Nat, k < 8 → 0 ≤ (σ 11 k).toInt ∧ (σ 11 k).toInt ≤ 3) := id hI9
  obtain ⟨i4, i5, i6, w7⟩ : (1 ≤ (σ 16 0).toInt ∧ (σ 16 0).toInt ≤ 8) ∧ (1 ≤ (σ 16 1).toInt ∧ (σ 16 1).toInt ≤ 12) ∧ (0 ≤ (σ 16 2).toInt ∧ (σ 16 2).toInt ≤ 999) ∧ (∀ k : Nat, k < 8 → 0 ≤ (σ 17 k).toInt ∧ (σ 17 k).toInt ≤ 3) := id hI16
  obtain ⟨i8, i9, i10, w11, w12⟩ : (1 ≤ (σ 55 10).toInt ∧ (σ 55 10).toInt ≤ 8) ∧ (1 ≤ (σ 55 12).toInt ∧ (σ 55 12).toInt ≤ 12) ∧ (0 ≤ (σ 55 13).toInt ∧ (σ 55 13).toInt ≤ 999) ∧ (∀ k : Nat, k < 8 → 0 ≤ (σ 62 k).toInt ∧ (σ 62 k).toInt ≤ 3) ∧ (∀ k : Nat, k < 8 → 0 ≤ (σ 67 k).toInt ∧ (σ 67 k).toInt ≤ 3) := id hI104
  obtain ⟨i13, w14⟩ : (0 ≤ (σ 55 15).toInt ∧ (σ 55 15).toInt ≤ 80) ∧ (∀ k : Nat, k < 2 → (-1) ≤ (σ 65 k).toInt ∧ (σ 65 k).toInt ≤ 80) := id hI105
  refine lv_aload_n hx hb dL_law_526 rfl (lv_at hl 2 rfl) ?_
  refine lv_aload_n hx hb dL_law_527 rfl (lv_at hl 3 rfl) ?_
  refine lv_iload_n hx hb dL_law_528 rfl (lv_at hl 0 rfl) ?_
  refine lv_iconst (v := 1) hx hb dL_law_529 (of_decide_eq_true rfl) ?_
  have g15 := jrg (rfl : x0.toInt = x0.toInt)
  refine lv_iadd hx hb dL_law_530 ?_
  refine lv_topi (fun x16 ex16 => ?_)
  exact by
   have tx16 : x16.toInt = x0.toInt + 1 := (jadd ex16 rfl jz_1 (by omega) (by omega)).trans (by omega)
   refine va_sld hx hb hX hbl hbA hS (jin tx16 (by omega) (by omega)) dL_law_531 ?_
   have g17 := jrg (rfl : (xs x16.toNatClampNeg).toInt = (xs x16.toNatClampNeg).toInt)
   refine jcallV (As := [.int (xs x16.toNatClampNeg)]) (rest := []) ⟨hx, hb, hml, hown, hts⟩ hK hP hA hS hZ (c_X11_puts l D cI cL ad zz hJ σ τ (xs x16.toNatClampNeg) ((xs x16.toNatClampNeg).toInt) rfl hI2 hI16 hI18 hI22 hI31 hI38 hI47) cw_RL_57 (jc_0 cI cL ad σ τ) rfl ⟨Nat.le_of_ble_eq_true rfl, Nat.le_of_ble_eq_true rfl⟩ rfl rfl rfl hl.1 rfl (Nat.le_of_ble_eq_true rfl) dL_law_532 ⟨Nat.le_of_ble_eq_true rfl, Nat.le_of_ble_eq_true rfl⟩ (fun r19 σ18 τ18 H locs h18 hP hS => ?_)
   obtain ⟨rfl, f20, f21, I22, h18⟩ := h18
   refine lv_pop hx hb dL_law_535 rfl ?_
   refine lv_aload_n hx hb dL_law_536 rfl (lv_at hl 1 rfl) ?_
   refine lv_aload_n hx hb dL_law_537 rfl (lv_at hl 3 rfl) ?_
   refine lv_iload_n hx hb dL_law_538 rfl (lv_at hl 0 rfl) ?_
   exact by
    refine lv_iconst (v := 1) hx hb dL_law_539 (of_decide_eq_true rfl) ?_
    refine lv_iadd hx hb dL_law_540 ?_
    refine jtopr ex16.symm ?_
    refine va_sld hx hb hX hbl hbA hS (jin tx16 (by omega) (by omega)) dL_law_541 ?_
    have I24 : jI101 σ18 := jI101_fr (congrFun (f20 55 (of_decide_eq_true rfl)) 4) (congrFun (f20 55 (of_decide_eq_true rfl)) 5) (f20 56 (of_decide_eq_true rfl)) (f20 57 (of_decide_eq_true rfl)) (f20 58 (of_decide_eq_true rfl)) (f20 59 (of_decide_eq_true rfl)) hI101
    have I25 : jI102 σ18 := jI102_fr (congrFun (f20 55 (of_decide_eq_true rfl)) 6) (f20 60 (of_decide_eq_true rfl)) (f20 61 (of_decide_eq_true rfl)) hI102
    have I26 : jI103 σ18 := jI103_fr (congrFun (f20 55 (of_decide_eq_true rfl)) 9) hI103
    have I27 : jI104 σ18 := jI104_fr (congrFun (f20 55 (of_decide_eq_true rfl)) 10) (congrFun (f20 55 (of_decide_eq_true rfl)) 12) (congrFun (f20 55 (of_decide_eq_true rfl)) 13) (f20 62 (of_decide_eq_true rfl)) (f20 67 (of_decide_eq_true rfl)) hI104
    have I28 : jI105 σ18 := jI105_fr (congrFun (f20 55 (of_decide_eq_true rfl)) 15) (f20 65 (of_decide_eq_true rfl)) hI105
    exact by
     have I29 : jI106 σ18 := jI106_fr (congrFun (f20 55 (of_decide_eq_true rfl)) 32) (f20 70 (of_decide_eq_true rfl)) (f20 71 (of_decide_eq_true rfl)) (f20 72 (of_decide_eq_true rfl)) hI106
     have I30 : jI107 σ18 := jI107_fr (congrFun (f20 55 (of_decide_eq_true rfl)) 12) (congrFun (f20 55 (of_decide_eq_true rfl)) 47) (f20 80 (of_decide_eq_true rfl)) hI107
     have I31 : jI119 σ18 := jI119_fr (f20 68 (of_decide_eq_true rfl)) hI119
     have p32 : jKept σ18 := jKept.fr (f20 75 (of_decide_eq_true rfl)) (f20 76 (of_decide_eq_true rfl)) (f20 77 (of_decide_eq_true rfl)) hs_jKept
     have p33 : jBook σ18 := jBook.fr (congrFun (f20 55 (of_decide_eq_true rfl)) 47) (congrFun (f20 55 (of_decide_eq_true rfl)) 10) (f20 81 (of_decide_eq_true rfl)) hs_jBook
     refine jcallV (As := [.int (xs x16.toNatClampNeg)]) (rest := []) ⟨hx, hb, hml, hown, hts⟩ hK hP hA hS hZ (c_X12_puts l D cI cL ad zz hJ σ18 τ (xs x16.toNatClampNeg) ((xs x16.toNatClampNeg).toInt) rfl I24 I25 I26 I27 I28 I29 I30 I31 p32 p33) cw_RL_60 (jc_55 cI cL ad σ18 τ) rfl ⟨Nat.le_of_ble_eq_true rfl, Nat.le_of_ble_eq_true rfl⟩ rfl rfl rfl hl.1 rfl (Nat.le_of_ble_eq_true rfl) dL_law_542 ⟨Nat.le_of_ble_eq_true rfl, Nat.le_of_ble_eq_true rfl⟩ (fun r35 σ34 τ34 H locs h34 hP hS => ?_)
     obtain ⟨rfl, f36, f37, I38, p39, p40, h34⟩ := h34
     refine lv_pop hx hb dL_law_545 rfl ?_
     refine lv_goto (tgt := 1357) hx hb dL_law_546 (of_decide_eq_true rfl) ?_
     obtain ⟨x42, ex42⟩ : ∃ y : Int32, y = x0 + 6 := ⟨_, rfl⟩
     exact by
      have tx42 : x42.toInt = x0.toInt + 6 := (jadd ex42 rfl jz_6 (by omega) (by omega)).trans (by omega)
      refine lv_iinc (v := x42) (lv' := [(3, .int x42), (2, .ref (ad 55)), (1, .ref (ad 0)), (0, .ref b)]) hx hb dL_law_1357 hl (k := 0) rfl (by rw [ex42]; rfl) (of_decide_eq_true rfl) rfl (fun ls hl => ?_)
      refine lv_goto (tgt := 18) hx hb dL_law_1360 (of_decide_eq_true rfl) ?_
      have I43 : jI2 σ34 := jI2_fr ((congrFun (f36 2 (of_decide_eq_true rfl)) 0).trans (congrFun (f20 2 (of_decide_eq_true rfl)) 0)) ((congrFun (f36 2 (of_decide_eq_true rfl)) 1).trans (congrFun (f20 2 (of_decide_eq_true rfl)) 1)) ((congrFun (f36 2 (of_decide_eq_true rfl)) 2).trans (congrFun (f20 2 (of_decide_eq_true rfl)) 2)) ((congrFun (f36 2 (of_decide_eq_true rfl)) 3).trans (congrFun (f20 2 (of_decide_eq_true rfl)) 3)) ((f36 6 (of_decide_eq_true rfl)).trans (f20 6 (of_decide_eq_true rfl))) hI2
      have I44 : jI9 σ34 := jI9_fr ((congrFun (f36 9 (of_decide_eq_true rfl)) 0).trans (congrFun (f20 9 (of_decide_eq_true rfl)) 0)) ((f36 10 (of_decide_eq_true rfl)).trans (f20 10 (of_decide_eq_true rfl))) ((f36 11 (of_decide_eq_true rfl)).trans (f20 11 (of_decide_eq_true rfl))) hI9
      have I45 : jI12 σ34 := jI12_fr ((congrFun (f36 12 (of_decide_eq_true rfl)) 0).trans (congrFun (f20 12 (of_decide_eq_true rfl)) 0)) ((f36 13 (of_decide_eq_true rfl)).trans (f20 13 (of_decide_eq_true rfl))) hI12
      have I46 : jI16 σ34 := jI16_fr ((congrFun (f36 16 (of_decide_eq_true rfl)) 0).trans (congrFun (f20 16 (of_decide_eq_true rfl)) 0)) ((congrFun (f36 16 (of_decide_eq_true rfl)) 1).trans (congrFun (f20 16 (of_decide_eq_true rfl)) 1)) ((congrFun (f36 16 (of_decide_eq_true rfl)) 2).trans (congrFun (f20 16 (of_decide_eq_true rfl)) 2)) ((f36 17 (of_decide_eq_true rfl)).trans (f20 17 (of_decide_eq_true rfl))) hI16
      have I47 : jI18 σ34 := jI18_fr ((congrFun (f36 18 (of_decide_eq_true rfl)) 0).trans (congrFun (f20 18 (of_decide_eq_true rfl)) 0)) ((f36 19 (of_decide_eq_true rfl)).trans (f20 19 (of_decide_eq_true rfl))) hI18
      have I48 : jI22 σ34 := jI22_fr ((congrFun (f36 22 (of_decide_eq_true rfl)) 0).trans (congrFun (f20 22 (of_decide_eq_true rfl)) 0)) ((f36 23 (of_decide_eq_true rfl)).trans (f20 23 (of_decide_eq_true rfl))) hI22
      exact by
       have I49 : jI31 σ34 := jI31_fr (congrFun (f36 31 (of_decide_eq_true rfl)) 8) (f36 33 (of_decide_eq_true rfl)) (f36 36 (of_decide_eq_true rfl)) I22
       have I50 : jI38 σ34 := jI38_fr ((congrFun (f36 38 (of_decide_eq_true rfl)) 0).trans (congrFun (f20 38 (of_decide_eq_true rfl)) 0)) ((congrFun (f36 38 (of_decide_eq_true rfl)) 1).trans (congrFun (f20 38 (of_decide_eq_true rfl)) 1)) ((f36 39 (of_decide_eq_true rfl)).trans (f20 39 (of_decide_eq_true rfl))) hI38
       have I51 : jI43 σ34 := jI43_fr ((congrFun (f36 43 (of_decide_eq_true rfl)) 8).trans (congrFun (f20 43 (of_decide_eq_true rfl)) 8)) hI43
       have I52 : jI47 σ34 := jI47_fr ((congrFun (f36 47 (of_decide_eq_true rfl)) 0).trans (congrFun (f20 47 (of_decide_eq_true rfl)) 0)) ((f36 48 (of_decide_eq_true rfl)).trans (f20 48 (of_decide_eq_true rfl))) ((f36 49 (of_decide_eq_true rfl)).trans (f20 49 (of_decide_eq_true rfl))) hI47
       have I53 : jI50 σ34 := jI50_fr ((f36 52 (of_decide_eq_true rfl)).trans (f20 52 (of_decide_eq_true rfl))) hI50
       have I54 : jI101 σ34 := jI101_fr (f37 4 (of_decide_eq_true rfl)) (f37 5 (of_decide_eq_true rfl)) (f36 56 (of_decide_eq_true rfl)) (f36 57 (of_decide_eq_true rfl)) (f36 58 (of_decide_eq_true rfl)) (f36 59 (of_decide_eq_true rfl)) I24
       have I55 : jI102 σ34 := jI102_fr (f37 6 (of_decide_eq_true rfl)) (f36 60 (of_decide_eq_true rfl)) (f36 61 (of_decide_eq_true rfl)) I25
       have I56 : jI103 σ34 := jI103_fr (f37 9 (of_decide_eq_true rfl)) I26
       have I57 : jI104 σ34 := jI104_fr (f37 10 (of_decide_eq_true rfl)) (f37 12 (of_decide_eq_true rfl)) (f37 13 (of_decide_eq_true rfl)) (f36 62 (of_decide_eq_true rfl)) (f36 67 (of_decide_eq_true rfl)) I27
       have I58 : jI105 σ34 := jI105_fr (f37 15 (of_decide_eq_true rfl)) (f36 65 (of_decide_eq_true rfl)) I28
       have I59 : jI106 σ34 := jI106_fr (f37 32 (of_decide_eq_true rfl)) (f36 70 (of_decide_eq_true rfl)) (f36 71 (of_decide_eq_true rfl)) (f36 72 (of_decide_eq_true rfl)) I29
       have I60 : jI107 σ34 := jI107_fr (f37 12 (of_decide_eq_true rfl)) (f37 47 (of_decide_eq_true rfl)) (f36 80 (of_decide_eq_true rfl)) I30
       have I61 : jI109 σ34 := jI109_fr ((f37 50 (of_decide_eq_true rfl)).trans (congrFun (f20 55 (of_decide_eq_true rfl)) 50)) hI109
       have I62 : jI110 σ34 := jI110_fr ((f36 86 (of_decide_eq_true rfl)).trans (f20 86 (of_decide_eq_true rfl))) ((f36 87 (of_decide_eq_true rfl)).trans (f20 87 (of_decide_eq_true rfl))) hI110
       have I63 : jI111 σ34 := jI111_fr ((f36 79 (of_decide_eq_true rfl)).trans (f20 79 (of_decide_eq_true rfl))) hI111
       have z64 : (σ34 9 0).toInt = (σ 9 0).toInt := (congrArg Int32.toInt (show σ34 9 0 = (σ 9 0) from ((congrFun (f36 9 (of_decide_eq_true rfl)) 0).trans (congrFun (f20 9 (of_decide_eq_true rfl)) 0))))
       have z65 : (σ34 55 15).toInt = (σ 55 15).toInt := (congrArg Int32.toInt (show σ34 55 15 = (σ 55 15) from ((f37 15 (of_decide_eq_true rfl)).trans (congrFun (f20 55 (of_decide_eq_true rfl)) 15))))
       have z66 : (σ34 16 0).toInt = (σ 16 0).toInt := (congrArg Int32.toInt (show σ34 16 0 = (σ 16 0) from ((congrFun (f36 16 (of_decide_eq_true rfl)) 0).trans (congrFun (f20 16 (of_decide_eq_true rfl)) 0))))
       have z67 : (σ34 55 10).toInt = (σ 55 10).toInt := (congrArg Int32.toInt (show σ34 55 10 = (σ 55 10) from ((f37 10 (of_decide_eq_true rfl)).trans (congrFun (f20 55 (of_decide_eq_true rfl)) 10))))
       have z68 : (σ34 16 1).toInt = (σ 16 1).toInt := (congrArg Int32.toInt (show σ34 16 1 = (σ 16 1) from ((congrFun (f36 16 (of_decide_eq_true rfl)) 1).trans (congrFun (f20 16 (of_decide_eq_true rfl)) 1))))
       have z69 : (σ34 55 12).toInt = (σ 55 12).toInt := (congrArg Int32.toInt (show σ34 55 12 = (σ 55 12) from ((f37 12 (of_decide_eq_true rfl)).trans (congrFun (f20 55 (of_decide_eq_true rfl)) 12))))
       have z70 : (σ34 16 2).toInt = (σ 16 2).toInt := (congrArg Int32.toInt (show σ34 16 2 = (σ 16 2) from ((congrFun (f36 16 (of_decide_eq_true rfl)) 2).trans (congrFun (f20 16 (of_decide_eq_true rfl)) 2))))
       have z71 : (σ34 55 13).toInt = (σ 55 13).toInt := (congrArg Int32.toInt (show σ34 55 13 = (σ 55 13) from ((f37 13 (of_decide_eq_true rfl)).trans (congrFun (f20 55 (of_decide_eq_true rfl)) 13))))
       exact by exact ih x42 σ34 τ _ _ ls (by have h9 := tx42; omega) ⟨I43, I44, I45, I46, I47, I48, I49, I50, I51, I52, I53, I54, I55, I56, I57, I58, I59, I60, I61, I62, I63, I38, p39, p40, (by omega), (by omega), (by omega), (by omega), (show jTp (σ34 10) (σ34 63) (σ34 55 15).toInt by rw [show σ34 10 = σ 10 from ((f36 10 (of_decide_eq_true rfl)).trans (f20 10 (of_decide_eq_true rfl))), show σ34 63 = σ 63 from ((f36 63 (of_decide_eq_true rfl)).trans (f20 63 (of_decide_eq_true rfl)))]; exact hr0.le (by omega)), (show jSo (σ34 17) (σ34 62) (σ34 16 0).toInt by rw [show σ34 17 = σ 17 from ((f36 17 (of_decide_eq_true rfl)).trans (f20 17 (of_decide_eq_true rfl))), show σ34 62 = σ 62 from ((f36 62 (of_decide_eq_true rfl)).trans (f20 62 (of_decide_eq_true rfl))), show (σ34 16 0).toInt = (σ 16 0).toInt from by omega]; exact hr1)⟩ hP hS (lv_sub hl [0, 1, 2, 3] rfl)
set_option maxHeartbeats 4000000 in
set_option maxRecDepth 100000 in
theorem law_case_11 {p : Program} {e : Env} {s : State} {m : MethodId} {below : List Frame} {meth : Method} {c : Code} (l : Launch) {b L : Nat} {xs : Nat → Int32} {D : va_G} {cI cL : ClassId} {ad zz : Nat → Nat} (C0 : lw_At p s m meth c b L xs) (hJ : jD ad) (hA : ∀ q, jA ad q → s.heap.size ≤ q) (hK : jK D cI cL s) (hZ : jZ zz (fun q : Nat => s.heap.size ≤ q) s s.heap) {x0 : Int32} (hx0 : 0 ≤ x0.toInt) (hxL : x0.toInt + 6 ≤ (L : Int)) (hL : L ≤ 384) {σ : Nat → Nat → Int32} {τ : Nat → Nat → Int64} {H : Heap} {locs : List Loc} (hS : va_S (fun q : Nat => s.heap.size ≤ q) s.heap H locs) {ls : Array Slot} (hAll : jAll σ τ) (hP : jH D cI cL ad σ τ H) (hl : lv_has ls 4 [(3, .int x0), (2, .ref (ad 55)), (1, .ref (ad 0)), (0, .ref b)]) (ih : ∀ (x1 : Int32) (σ : Nat → Nat → Int32) (τ : Nat → Nat → Int64) (H : Heap) (locs : List Loc) (ls : Array Slot), x1.toInt = x0.toInt + 6 → jAll σ τ → jH D cI cL ad σ τ H → va_S (fun q : Nat => s.heap.size ≤ q) s.heap H locs → lv_has ls 4 [(3, .int x1), (2, .ref (ad 55)), (1, .ref (ad 0)), (0, .ref b)] → W p l e room_1 s m #[Value.ref b] below meth c H locs 90 348600 (lw_Z below #[Value.ref b] s) (F0 m 18 ls [])) : W p l e room_1 s m #[Value.ref b] below meth c H locs 90 348600 (lw_Z below #[Value.ref b] s) (F0 m 549 ls []) := by
  obtain ⟨hx, hb, hr, hml, hown, hts0, hX, hbl, hlocks, hgv⟩ := C0
  have hts : ∀ w ∈ wsL_law, w.before #[Value.ref b] s = true := fun w h => hts0 w (wsL_law_in w h)
  have hbA : ¬ (fun q : Nat => s.heap.size ≤ q) b := Nat.not_le.mpr hbl
  have hown : s.vm.findClass RL = some m.cls := hown
  obtain ⟨hI2, hI9, hI12, hI16, hI18, hI22, hI31, hI38, hI43, hI47, hI50, hI101, hI102, hI103, hI104, hI105, hI106, hI107, hI109, hI110, hI111, hI119, hs_jKept, hs_jBook, ht0, ht1, ht2, ht3, hr0, hr1⟩ := hAll
  have hL9 : (L : Int) ≤ 384 := by omega
  obtain ⟨i1, w2, w3⟩ : (0 ≤ (σ 9 0).toInt ∧ (σ 9 0).toInt ≤ 80) ∧ (∀ k : Nat, k < 80 → 0 ≤ (σ 10 k).toInt ∧ (σ 10 k).toInt ≤ 255) ∧ (∀ k : Nat, k < 8 → 0 ≤ (σ 11 k).toInt ∧ (σ 11 k).toInt ≤ 3) := id hI9
  obtain ⟨i4, i5, i6, w7⟩ : (1 ≤ (σ 16 0).toInt ∧ (σ 16 0).toInt ≤ 8) ∧ (1 ≤ (σ 16 1).toInt ∧ (σ 16 1).toInt ≤ 12) ∧ (0 ≤ (σ 16 2).toInt ∧ (σ 16 2).toInt ≤ 999) ∧ (∀ k : Nat, k < 8 → 0 ≤ (σ 17 k).toInt ∧ (σ 17 k).toInt ≤ 3) := id hI16
  obtain ⟨i8, i9, i10, w11, w12⟩ : (1 ≤ (σ 55 10).toInt ∧ (σ 55 10).toInt ≤ 8) ∧ (1 ≤ (σ 55 12).toInt ∧ (σ 55 12).toInt ≤ 12) ∧ (0 ≤ (σ 55 13).toInt ∧ (σ 55 13).toInt ≤ 999) ∧ (∀ k : Nat, k < 8 → 0 ≤ (σ 62 k).toInt ∧ (σ 62 k).toInt ≤ 3) ∧ (∀ k : Nat, k < 8 → 0 ≤ (σ 67 k).toInt ∧ (σ 67 k).toInt ≤ 3) := id hI104
  obtain ⟨i13, w14⟩ : (0 ≤ (σ 55 15).toInt ∧ (σ 55 15).toInt ≤ 80) ∧ (∀ k : Nat, k < 2 → (-1) ≤ (σ 65 k).toInt ∧ (σ 65 k).toInt ≤ 80) := id hI105
  refine lv_aload_n hx hb dL_law_549 rfl (lv_at hl 2 rfl) ?_
  refine lv_aload_n hx hb dL_law_550 rfl (lv_at hl 3 rfl) ?_
  refine lv_iload_n hx hb dL_law_551 rfl (lv_at hl 0 rfl) ?_
  refine lv_iconst (v := 1) hx hb dL_law_552 (of_decide_eq_true rfl) ?_
  have g15 := jrg (rfl : x0.toInt = x0.toInt)
  refine lv_iadd hx hb dL_law_553 ?_
  refine lv_topi (fun x16 ex16 => ?_)
  exact by
   have tx16 : x16.toInt = x0.toInt + 1 := (jadd ex16 rfl jz_1 (by omega) (by omega)).trans (by omega)
   refine va_sld hx hb hX hbl hbA hS (jin tx16 (by omega) (by omega)) dL_law_554 ?_
   have g17 := jrg (rfl : (xs x16.toNatClampNeg).toInt = (xs x16.toNatClampNeg).toInt)
   refine jcallV (As := [.int (xs x16.toNatClampNeg)]) (rest := []) ⟨hx, hb, hml, hown, hts⟩ hK hP hA hS hZ (c_X11_mean l D cI cL ad zz hJ σ τ (xs x16.toNatClampNeg) ((xs x16.toNatClampNeg).toInt) rfl hI2 hI16 hI18 hI22 hI31 hI38) cw_RL_61 (jc_0 cI cL ad σ τ) rfl ⟨Nat.le_of_ble_eq_true rfl, Nat.le_of_ble_eq_true rfl⟩ rfl rfl rfl hl.1 rfl (Nat.le_of_ble_eq_true rfl) dL_law_555 ⟨Nat.le_of_ble_eq_true rfl, Nat.le_of_ble_eq_true rfl⟩ (fun r19 σ18 τ18 H locs h18 hP hS => ?_)
   obtain ⟨rfl, f20, f21, I22, h18⟩ := h18
   refine lv_pop hx hb dL_law_558 rfl ?_
   refine lv_aload_n hx hb dL_law_559 rfl (lv_at hl 1 rfl) ?_
   refine lv_aload_n hx hb dL_law_560 rfl (lv_at hl 3 rfl) ?_
   refine lv_iload_n hx hb dL_law_561 rfl (lv_at hl 0 rfl) ?_
   exact by
    refine lv_iconst (v := 1) hx hb dL_law_562 (of_decide_eq_true rfl) ?_
    refine lv_iadd hx hb dL_law_563 ?_
    refine jtopr ex16.symm ?_
    refine va_sld hx hb hX hbl hbA hS (jin tx16 (by omega) (by omega)) dL_law_564 ?_
    have I24 : jI101 σ18 := jI101_fr (congrFun (f20 55 (of_decide_eq_true rfl)) 4) (congrFun (f20 55 (of_decide_eq_true rfl)) 5) (f20 56 (of_decide_eq_true rfl)) (f20 57 (of_decide_eq_true rfl)) (f20 58 (of_decide_eq_true rfl)) (f20 59 (of_decide_eq_true rfl)) hI101
    have I25 : jI102 σ18 := jI102_fr (congrFun (f20 55 (of_decide_eq_true rfl)) 6) (f20 60 (of_decide_eq_true rfl)) (f20 61 (of_decide_eq_true rfl)) hI102
    have I26 : jI103 σ18 := jI103_fr (congrFun (f20 55 (of_decide_eq_true rfl)) 9) hI103
    have I27 : jI104 σ18 := jI104_fr (congrFun (f20 55 (of_decide_eq_true rfl)) 10) (congrFun (f20 55 (of_decide_eq_true rfl)) 12) (congrFun (f20 55 (of_decide_eq_true rfl)) 13) (f20 62 (of_decide_eq_true rfl)) (f20 67 (of_decide_eq_true rfl)) hI104
    have I28 : jI105 σ18 := jI105_fr (congrFun (f20 55 (of_decide_eq_true rfl)) 15) (f20 65 (of_decide_eq_true rfl)) hI105
    exact by
     have I29 : jI106 σ18 := jI106_fr (congrFun (f20 55 (of_decide_eq_true rfl)) 32) (f20 70 (of_decide_eq_true rfl)) (f20 71 (of_decide_eq_true rfl)) (f20 72 (of_decide_eq_true rfl)) hI106
     have I30 : jI119 σ18 := jI119_fr (f20 68 (of_decide_eq_true rfl)) hI119
     have p31 : jKept σ18 := jKept.fr (f20 75 (of_decide_eq_true rfl)) (f20 76 (of_decide_eq_true rfl)) (f20 77 (of_decide_eq_true rfl)) hs_jKept
     refine jcallV (As := [.int (xs x16.toNatClampNeg)]) (rest := []) ⟨hx, hb, hml, hown, hts⟩ hK hP hA hS hZ (c_X12_mean l D cI cL ad zz hJ σ18 τ (xs x16.toNatClampNeg) ((xs x16.toNatClampNeg).toInt) rfl I24 I25 I26 I27 I28 I29 I30 p31) cw_RL_64 (jc_55 cI cL ad σ18 τ) rfl ⟨Nat.le_of_ble_eq_true rfl, Nat.le_of_ble_eq_true rfl⟩ rfl rfl rfl hl.1 rfl (Nat.le_of_ble_eq_true rfl) dL_law_565 ⟨Nat.le_of_ble_eq_true rfl, Nat.le_of_ble_eq_true rfl⟩ (fun r33 σ32 τ32 H locs h32 hP hS => ?_)
     obtain ⟨rfl, f34, f35, I36, p37, h32⟩ := h32
     refine lv_pop hx hb dL_law_568 rfl ?_
     refine lv_goto (tgt := 1357) hx hb dL_law_569 (of_decide_eq_true rfl) ?_
     obtain ⟨x39, ex39⟩ : ∃ y : Int32, y = x0 + 6 := ⟨_, rfl⟩
     have tx39 : x39.toInt = x0.toInt + 6 := (jadd ex39 rfl jz_6 (by omega) (by omega)).trans (by omega)
     exact by
      refine lv_iinc (v := x39) (lv' := [(3, .int x39), (2, .ref (ad 55)), (1, .ref (ad 0)), (0, .ref b)]) hx hb dL_law_1357 hl (k := 0) rfl (by rw [ex39]; rfl) (of_decide_eq_true rfl) rfl (fun ls hl => ?_)
      refine lv_goto (tgt := 18) hx hb dL_law_1360 (of_decide_eq_true rfl) ?_
      have I40 : jI2 σ32 := jI2_fr ((congrFun (f34 2 (of_decide_eq_true rfl)) 0).trans (congrFun (f20 2 (of_decide_eq_true rfl)) 0)) ((congrFun (f34 2 (of_decide_eq_true rfl)) 1).trans (congrFun (f20 2 (of_decide_eq_true rfl)) 1)) ((congrFun (f34 2 (of_decide_eq_true rfl)) 2).trans (congrFun (f20 2 (of_decide_eq_true rfl)) 2)) ((congrFun (f34 2 (of_decide_eq_true rfl)) 3).trans (congrFun (f20 2 (of_decide_eq_true rfl)) 3)) ((f34 6 (of_decide_eq_true rfl)).trans (f20 6 (of_decide_eq_true rfl))) hI2
      have I41 : jI9 σ32 := jI9_fr ((congrFun (f34 9 (of_decide_eq_true rfl)) 0).trans (congrFun (f20 9 (of_decide_eq_true rfl)) 0)) ((f34 10 (of_decide_eq_true rfl)).trans (f20 10 (of_decide_eq_true rfl))) ((f34 11 (of_decide_eq_true rfl)).trans (f20 11 (of_decide_eq_true rfl))) hI9
      have I42 : jI12 σ32 := jI12_fr ((congrFun (f34 12 (of_decide_eq_true rfl)) 0).trans (congrFun (f20 12 (of_decide_eq_true rfl)) 0)) ((f34 13 (of_decide_eq_true rfl)).trans (f20 13 (of_decide_eq_true rfl))) hI12
      have I43 : jI16 σ32 := jI16_fr ((congrFun (f34 16 (of_decide_eq_true rfl)) 0).trans (congrFun (f20 16 (of_decide_eq_true rfl)) 0)) ((congrFun (f34 16 (of_decide_eq_true rfl)) 1).trans (congrFun (f20 16 (of_decide_eq_true rfl)) 1)) ((congrFun (f34 16 (of_decide_eq_true rfl)) 2).trans (congrFun (f20 16 (of_decide_eq_true rfl)) 2)) ((f34 17 (of_decide_eq_true rfl)).trans (f20 17 (of_decide_eq_true rfl))) hI16
      have I44 : jI18 σ32 := jI18_fr ((congrFun (f34 18 (of_decide_eq_true rfl)) 0).trans (congrFun (f20 18 (of_decide_eq_true rfl)) 0)) ((f34 19 (of_decide_eq_true rfl)).trans (f20 19 (of_decide_eq_true rfl))) hI18
      have I45 : jI22 σ32 := jI22_fr ((congrFun (f34 22 (of_decide_eq_true rfl)) 0).trans (congrFun (f20 22 (of_decide_eq_true rfl)) 0)) ((f34 23 (of_decide_eq_true rfl)).trans (f20 23 (of_decide_eq_true rfl))) hI22
      have I46 : jI31 σ32 := jI31_fr (congrFun (f34 31 (of_decide_eq_true rfl)) 8) (f34 33 (of_decide_eq_true rfl)) (f34 36 (of_decide_eq_true rfl)) I22
      have I47 : jI38 σ32 := jI38_fr ((congrFun (f34 38 (of_decide_eq_true rfl)) 0).trans (congrFun (f20 38 (of_decide_eq_true rfl)) 0)) ((congrFun (f34 38 (of_decide_eq_true rfl)) 1).trans (congrFun (f20 38 (of_decide_eq_true rfl)) 1)) ((f34 39 (of_decide_eq_true rfl)).trans (f20 39 (of_decide_eq_true rfl))) hI38
      have I48 : jI43 σ32 := jI43_fr ((congrFun (f34 43 (of_decide_eq_true rfl)) 8).trans (congrFun (f20 43 (of_decide_eq_true rfl)) 8)) hI43
      have I49 : jI47 σ32 := jI47_fr ((congrFun (f34 47 (of_decide_eq_true rfl)) 0).trans (congrFun (f20 47 (of_decide_eq_true rfl)) 0)) ((f34 48 (of_decide_eq_true rfl)).trans (f20 48 (of_decide_eq_true rfl))) ((f34 49 (of_decide_eq_true rfl)).trans (f20 49 (of_decide_eq_true rfl))) hI47
      have I50 : jI50 σ32 := jI50_fr ((f34 52 (of_decide_eq_true rfl)).trans (f20 52 (of_decide_eq_true rfl))) hI50
      have I51 : jI101 σ32 := jI101_fr (f35 4 (of_decide_eq_true rfl)) (f35 5 (of_decide_eq_true rfl)) (f34 56 (of_decide_eq_true rfl)) (f34 57 (of_decide_eq_true rfl)) (f34 58 (of_decide_eq_true rfl)) (f34 59 (of_decide_eq_true rfl)) I24
      have I52 : jI102 σ32 := jI102_fr (f35 6 (of_decide_eq_true rfl)) (f34 60 (of_decide_eq_true rfl)) (f34 61 (of_decide_eq_true rfl)) I25
      have I53 : jI103 σ32 := jI103_fr (f35 9 (of_decide_eq_true rfl)) I26
      have I54 : jI104 σ32 := jI104_fr (f35 10 (of_decide_eq_true rfl)) (f35 12 (of_decide_eq_true rfl)) (f35 13 (of_decide_eq_true rfl)) (f34 62 (of_decide_eq_true rfl)) (f34 67 (of_decide_eq_true rfl)) I27
      have I55 : jI105 σ32 := jI105_fr (f35 15 (of_decide_eq_true rfl)) (f34 65 (of_decide_eq_true rfl)) I28
      have I56 : jI106 σ32 := jI106_fr (f35 32 (of_decide_eq_true rfl)) (f34 70 (of_decide_eq_true rfl)) (f34 71 (of_decide_eq_true rfl)) (f34 72 (of_decide_eq_true rfl)) I29
      have I57 : jI107 σ32 := jI107_fr ((f35 12 (of_decide_eq_true rfl)).trans (congrFun (f20 55 (of_decide_eq_true rfl)) 12)) ((f35 47 (of_decide_eq_true rfl)).trans (congrFun (f20 55 (of_decide_eq_true rfl)) 47)) ((f34 80 (of_decide_eq_true rfl)).trans (f20 80 (of_decide_eq_true rfl))) hI107
      have I58 : jI109 σ32 := jI109_fr ((f35 50 (of_decide_eq_true rfl)).trans (congrFun (f20 55 (of_decide_eq_true rfl)) 50)) hI109
      have I59 : jI110 σ32 := jI110_fr ((f34 86 (of_decide_eq_true rfl)).trans (f20 86 (of_decide_eq_true rfl))) ((f34 87 (of_decide_eq_true rfl)).trans (f20 87 (of_decide_eq_true rfl))) hI110
      have I60 : jI111 σ32 := jI111_fr ((f34 79 (of_decide_eq_true rfl)).trans (f20 79 (of_decide_eq_true rfl))) hI111
      have p61 : jBook σ32 := jBook.fr ((f35 47 (of_decide_eq_true rfl)).trans (congrFun (f20 55 (of_decide_eq_true rfl)) 47)) ((f35 10 (of_decide_eq_true rfl)).trans (congrFun (f20 55 (of_decide_eq_true rfl)) 10)) ((f34 81 (of_decide_eq_true rfl)).trans (f20 81 (of_decide_eq_true rfl))) hs_jBook
      have z62 : (σ32 9 0).toInt = (σ 9 0).toInt := (congrArg Int32.toInt (show σ32 9 0 = (σ 9 0) from ((congrFun (f34 9 (of_decide_eq_true rfl)) 0).trans (congrFun (f20 9 (of_decide_eq_true rfl)) 0))))
      have z63 : (σ32 55 15).toInt = (σ 55 15).toInt := (congrArg Int32.toInt (show σ32 55 15 = (σ 55 15) from ((f35 15 (of_decide_eq_true rfl)).trans (congrFun (f20 55 (of_decide_eq_true rfl)) 15))))
      have z64 : (σ32 16 0).toInt = (σ 16 0).toInt := (congrArg Int32.toInt (show σ32 16 0 = (σ 16 0) from ((congrFun (f34 16 (of_decide_eq_true rfl)) 0).trans (congrFun (f20 16 (of_decide_eq_true rfl)) 0))))
      have z65 : (σ32 55 10).toInt = (σ 55 10).toInt := (congrArg Int32.toInt (show σ32 55 10 = (σ 55 10) from ((f35 10 (of_decide_eq_true rfl)).trans (congrFun (f20 55 (of_decide_eq_true rfl)) 10))))
      have z66 : (σ32 16 1).toInt = (σ 16 1).toInt := (congrArg Int32.toInt (show σ32 16 1 = (σ 16 1) from ((congrFun (f34 16 (of_decide_eq_true rfl)) 1).trans (congrFun (f20 16 (of_decide_eq_true rfl)) 1))))
      have z67 : (σ32 55 12).toInt = (σ 55 12).toInt := (congrArg Int32.toInt (show σ32 55 12 = (σ 55 12) from ((f35 12 (of_decide_eq_true rfl)).trans (congrFun (f20 55 (of_decide_eq_true rfl)) 12))))
      have z68 : (σ32 16 2).toInt = (σ 16 2).toInt := (congrArg Int32.toInt (show σ32 16 2 = (σ 16 2) from ((congrFun (f34 16 (of_decide_eq_true rfl)) 2).trans (congrFun (f20 16 (of_decide_eq_true rfl)) 2))))
      have z69 : (σ32 55 13).toInt = (σ 55 13).toInt := (congrArg Int32.toInt (show σ32 55 13 = (σ 55 13) from ((f35 13 (of_decide_eq_true rfl)).trans (congrFun (f20 55 (of_decide_eq_true rfl)) 13))))
      exact by exact ih x39 σ32 τ _ _ ls (by have h9 := tx39; omega) ⟨I40, I41, I42, I43, I44, I45, I46, I47, I48, I49, I50, I51, I52, I53, I54, I55, I56, I57, I58, I59, I60, I36, p37, p61, (by omega), (by omega), (by omega), (by omega), (show jTp (σ32 10) (σ32 63) (σ32 55 15).toInt by rw [show σ32 10 = σ 10 from ((f34 10 (of_decide_eq_true rfl)).trans (f20 10 (of_decide_eq_true rfl))), show σ32 63 = σ 63 from ((f34 63 (of_decide_eq_true rfl)).trans (f20 63 (of_decide_eq_true rfl)))]; exact hr0.le (by omega)), (show jSo (σ32 17) (σ32 62) (σ32 16 0).toInt by rw [show σ32 17 = σ 17 from ((f34 17 (of_decide_eq_true rfl)).trans (f20 17 (of_decide_eq_true rfl))), show σ32 62 = σ 62 from ((f34 62 (of_decide_eq_true rfl)).trans (f20 62 (of_decide_eq_true rfl))), show (σ32 16 0).toInt = (σ 16 0).toInt from by omega]; exact hr1)⟩ hP hS (lv_sub hl [0, 1, 2, 3] rfl)
set_option maxHeartbeats 4000000 in
set_option maxRecDepth 100000 in
theorem law_case_12 {p : Program} {e : Env} {s : State} {m : MethodId} {below : List Frame} {meth : Method} {c : Code} (l : Launch) {b L : Nat} {xs : Nat → Int32} {D : va_G} {cI cL : ClassId} {ad zz : Nat → Nat} (C0 : lw_At p s m meth c b L xs) (hJ : jD ad) (hA : ∀ q, jA ad q → s.heap.size ≤ q) (hK : jK D cI cL s) (hZ : jZ zz (fun q : Nat => s.heap.size ≤ q) s s.heap) {x0 : Int32} (hx0 : 0 ≤ x0.toInt) (hxL : x0.toInt + 6 ≤ (L : Int)) (hL : L ≤ 384) {σ : Nat → Nat → Int32} {τ : Nat → Nat → Int64} {H : Heap} {locs : List Loc} (hS : va_S (fun q : Nat => s.heap.size ≤ q) s.heap H locs) {ls : Array Slot} (hAll : jAll σ τ) (hP : jH D cI cL ad σ τ H) (hl : lv_has ls 4 [(3, .int x0), (2, .ref (ad 55)), (1, .ref (ad 0)), (0, .ref b)]) (ih : ∀ (x1 : Int32) (σ : Nat → Nat → Int32) (τ : Nat → Nat → Int64) (H : Heap) (locs : List Loc) (ls : Array Slot), x1.toInt = x0.toInt + 6 → jAll σ τ → jH D cI cL ad σ τ H → va_S (fun q : Nat => s.heap.size ≤ q) s.heap H locs → lv_has ls 4 [(3, .int x1), (2, .ref (ad 55)), (1, .ref (ad 0)), (0, .ref b)] → W p l e room_1 s m #[Value.ref b] below meth c H locs 90 348600 (lw_Z below #[Value.ref b] s) (F0 m 18 ls [])) : W p l e room_1 s m #[Value.ref b] below meth c H locs 90 348600 (lw_Z below #[Value.ref b] s) (F0 m 572 ls []) := by
  obtain ⟨hx, hb, hr, hml, hown, hts0, hX, hbl, hlocks, hgv⟩ := C0
  have hts : ∀ w ∈ wsL_law, w.before #[Value.ref b] s = true := fun w h => hts0 w (wsL_law_in w h)
  have hbA : ¬ (fun q : Nat => s.heap.size ≤ q) b := Nat.not_le.mpr hbl
  have hown : s.vm.findClass RL = some m.cls := hown
  obtain ⟨hI2, hI9, hI12, hI16, hI18, hI22, hI31, hI38, hI43, hI47, hI50, hI101, hI102, hI103, hI104, hI105, hI106, hI107, hI109, hI110, hI111, hI119, hs_jKept, hs_jBook, ht0, ht1, ht2, ht3, hr0, hr1⟩ := hAll
  have hL9 : (L : Int) ≤ 384 := by omega
  obtain ⟨i1, w2, w3⟩ : (0 ≤ (σ 9 0).toInt ∧ (σ 9 0).toInt ≤ 80) ∧ (∀ k : Nat, k < 80 → 0 ≤ (σ 10 k).toInt ∧ (σ 10 k).toInt ≤ 255) ∧ (∀ k : Nat, k < 8 → 0 ≤ (σ 11 k).toInt ∧ (σ 11 k).toInt ≤ 3) := id hI9
  obtain ⟨i4, i5, i6, w7⟩ : (1 ≤ (σ 16 0).toInt ∧ (σ 16 0).toInt ≤ 8) ∧ (1 ≤ (σ 16 1).toInt ∧ (σ 16 1).toInt ≤ 12) ∧ (0 ≤ (σ 16 2).toInt ∧ (σ 16 2).toInt ≤ 999) ∧ (∀ k : Nat, k < 8 → 0 ≤ (σ 17 k).toInt ∧ (σ 17 k).toInt ≤ 3) := id hI16
  obtain ⟨i8, i9, i10, w11, w12⟩ : (1 ≤ (σ 55 10).toInt ∧ (σ 55 10).toInt ≤ 8) ∧ (1 ≤ (σ 55 12).toInt ∧ (σ 55 12).toInt ≤ 12) ∧ (0 ≤ (σ 55 13).toInt ∧ (σ 55 13).toInt ≤ 999) ∧ (∀ k : Nat, k < 8 → 0 ≤ (σ 62 k).toInt ∧ (σ 62 k).toInt ≤ 3) ∧ (∀ k : Nat, k < 8 → 0 ≤ (σ 67 k).toInt ∧ (σ 67 k).toInt ≤ 3) := id hI104
  obtain ⟨i13, w14⟩ : (0 ≤ (σ 55 15).toInt ∧ (σ 55 15).toInt ≤ 80) ∧ (∀ k : Nat, k < 2 → (-1) ≤ (σ 65 k).toInt ∧ (σ 65 k).toInt ≤ 80) := id hI105
  refine lv_aload_n hx hb dL_law_572 rfl (lv_at hl 2 rfl) ?_
  refine lv_aload_n hx hb dL_law_573 rfl (lv_at hl 3 rfl) ?_
  refine lv_iload_n hx hb dL_law_574 rfl (lv_at hl 0 rfl) ?_
  refine lv_iconst (v := 1) hx hb dL_law_575 (of_decide_eq_true rfl) ?_
  have g15 := jrg (rfl : x0.toInt = x0.toInt)
  refine lv_iadd hx hb dL_law_576 ?_
  refine lv_topi (fun x16 ex16 => ?_)
  exact by
   have tx16 : x16.toInt = x0.toInt + 1 := (jadd ex16 rfl jz_1 (by omega) (by omega)).trans (by omega)
   refine va_sld hx hb hX hbl hbA hS (jin tx16 (by omega) (by omega)) dL_law_577 ?_
   have g17 := jrg (rfl : (xs x16.toNatClampNeg).toInt = (xs x16.toNatClampNeg).toInt)
   refine lv_aload_n hx hb dL_law_578 rfl (lv_at hl 3 rfl) ?_
   refine lv_iload_n hx hb dL_law_579 rfl (lv_at hl 0 rfl) ?_
   refine lv_iconst (v := 2) hx hb dL_law_580 (of_decide_eq_true rfl) ?_
   refine lv_iadd hx hb dL_law_581 ?_
   refine lv_topi (fun x18 ex18 => ?_)
   have tx18 : x18.toInt = x0.toInt + 2 := (jadd ex18 rfl jz_2 (by omega) (by omega)).trans (by omega)
   exact by
    refine va_sld hx hb hX hbl hbA hS (jin tx18 (by omega) (by omega)) dL_law_582 ?_
    have g19 := jrg (rfl : (xs x18.toNatClampNeg).toInt = (xs x18.toNatClampNeg).toInt)
    refine jcallV (As := [.int (xs x16.toNatClampNeg), .int (xs x18.toNatClampNeg)]) (rest := []) ⟨hx, hb, hml, hown, hts⟩ hK hP hA hS hZ (c_X11_likely l D cI cL ad zz hJ σ τ (xs x16.toNatClampNeg) ((xs x16.toNatClampNeg).toInt) rfl (xs x18.toNatClampNeg) ((xs x18.toNatClampNeg).toInt) rfl hI2 hI16 hI18 hI22 hI31 hI38) cw_RL_65 (jc_0 cI cL ad σ τ) rfl ⟨Nat.le_of_ble_eq_true rfl, Nat.le_of_ble_eq_true rfl⟩ rfl rfl rfl hl.1 rfl (Nat.le_of_ble_eq_true rfl) dL_law_583 ⟨Nat.le_of_ble_eq_true rfl, Nat.le_of_ble_eq_true rfl⟩ (fun r21 σ20 τ20 H locs h20 hP hS => ?_)
    obtain ⟨rfl, f22, f23, I24, h20⟩ := h20
    refine lv_pop hx hb dL_law_586 rfl ?_
    refine lv_aload_n hx hb dL_law_587 rfl (lv_at hl 1 rfl) ?_
    refine lv_aload_n hx hb dL_law_588 rfl (lv_at hl 3 rfl) ?_
    refine lv_iload_n hx hb dL_law_589 rfl (lv_at hl 0 rfl) ?_
    refine lv_iconst (v := 1) hx hb dL_law_590 (of_decide_eq_true rfl) ?_
    refine lv_iadd hx hb dL_law_591 ?_
    refine jtopr ex16.symm ?_
    exact by
     refine va_sld hx hb hX hbl hbA hS (jin tx16 (by omega) (by omega)) dL_law_592 ?_
     refine lv_aload_n hx hb dL_law_593 rfl (lv_at hl 3 rfl) ?_
     refine lv_iload_n hx hb dL_law_594 rfl (lv_at hl 0 rfl) ?_
     refine lv_iconst (v := 2) hx hb dL_law_595 (of_decide_eq_true rfl) ?_
     refine lv_iadd hx hb dL_law_596 ?_
     refine jtopr ex18.symm ?_
     refine va_sld hx hb hX hbl hbA hS (jin tx18 (by omega) (by omega)) dL_law_597 ?_
     have I26 : jI101 σ20 := jI101_fr (congrFun (f22 55 (of_decide_eq_true rfl)) 4) (congrFun (f22 55 (of_decide_eq_true rfl)) 5) (f22 56 (of_decide_eq_true rfl)) (f22 57 (of_decide_eq_true rfl)) (f22 58 (of_decide_eq_true rfl)) (f22 59 (of_decide_eq_true rfl)) hI101
     have I27 : jI102 σ20 := jI102_fr (congrFun (f22 55 (of_decide_eq_true rfl)) 6) (f22 60 (of_decide_eq_true rfl)) (f22 61 (of_decide_eq_true rfl)) hI102
     exact by
      have I28 : jI103 σ20 := jI103_fr (congrFun (f22 55 (of_decide_eq_true rfl)) 9) hI103
      have I29 : jI104 σ20 := jI104_fr (congrFun (f22 55 (of_decide_eq_true rfl)) 10) (congrFun (f22 55 (of_decide_eq_true rfl)) 12) (congrFun (f22 55 (of_decide_eq_true rfl)) 13) (f22 62 (of_decide_eq_true rfl)) (f22 67 (of_decide_eq_true rfl)) hI104
      have I30 : jI105 σ20 := jI105_fr (congrFun (f22 55 (of_decide_eq_true rfl)) 15) (f22 65 (of_decide_eq_true rfl)) hI105
      have I31 : jI106 σ20 := jI106_fr (congrFun (f22 55 (of_decide_eq_true rfl)) 32) (f22 70 (of_decide_eq_true rfl)) (f22 71 (of_decide_eq_true rfl)) (f22 72 (of_decide_eq_true rfl)) hI106
      have I32 : jI119 σ20 := jI119_fr (f22 68 (of_decide_eq_true rfl)) hI119
      have p33 : jKept σ20 := jKept.fr (f22 75 (of_decide_eq_true rfl)) (f22 76 (of_decide_eq_true rfl)) (f22 77 (of_decide_eq_true rfl)) hs_jKept
      refine jcallV (As := [.int (xs x16.toNatClampNeg), .int (xs x18.toNatClampNeg)]) (rest := []) ⟨hx, hb, hml, hown, hts⟩ hK hP hA hS hZ (c_X12_likely l D cI cL ad zz hJ σ20 τ (xs x16.toNatClampNeg) ((xs x16.toNatClampNeg).toInt) rfl (xs x18.toNatClampNeg) ((xs x18.toNatClampNeg).toInt) rfl I26 I27 I28 I29 I30 I31 I32 p33) cw_RL_68 (jc_55 cI cL ad σ20 τ) rfl ⟨Nat.le_of_ble_eq_true rfl, Nat.le_of_ble_eq_true rfl⟩ rfl rfl rfl hl.1 rfl (Nat.le_of_ble_eq_true rfl) dL_law_598 ⟨Nat.le_of_ble_eq_true rfl, Nat.le_of_ble_eq_true rfl⟩ (fun r35 σ34 τ34 H locs h34 hP hS => ?_)
      obtain ⟨rfl, f36, f37, I38, p39, h34⟩ := h34
      refine lv_pop hx hb dL_law_601 rfl ?_
      refine lv_goto (tgt := 1357) hx hb dL_law_602 (of_decide_eq_true rfl) ?_
      obtain ⟨x41, ex41⟩ : ∃ y : Int32, y = x0 + 6 := ⟨_, rfl⟩
      exact by
       have tx41 : x41.toInt = x0.toInt + 6 := (jadd ex41 rfl jz_6 (by omega) (by omega)).trans (by omega)
       refine lv_iinc (v := x41) (lv' := [(3, .int x41), (2, .ref (ad 55)), (1, .ref (ad 0)), (0, .ref b)]) hx hb dL_law_1357 hl (k := 0) rfl (by rw [ex41]; rfl) (of_decide_eq_true rfl) rfl (fun ls hl => ?_)
       refine lv_goto (tgt := 18) hx hb dL_law_1360 (of_decide_eq_true rfl) ?_
       have I42 : jI2 σ34 := jI2_fr ((congrFun (f36 2 (of_decide_eq_true rfl)) 0).trans (congrFun (f22 2 (of_decide_eq_true rfl)) 0)) ((congrFun (f36 2 (of_decide_eq_true rfl)) 1).trans (congrFun (f22 2 (of_decide_eq_true rfl)) 1)) ((congrFun (f36 2 (of_decide_eq_true rfl)) 2).trans (congrFun (f22 2 (of_decide_eq_true rfl)) 2)) ((congrFun (f36 2 (of_decide_eq_true rfl)) 3).trans (congrFun (f22 2 (of_decide_eq_true rfl)) 3)) ((f36 6 (of_decide_eq_true rfl)).trans (f22 6 (of_decide_eq_true rfl))) hI2
       have I43 : jI9 σ34 := jI9_fr ((congrFun (f36 9 (of_decide_eq_true rfl)) 0).trans (congrFun (f22 9 (of_decide_eq_true rfl)) 0)) ((f36 10 (of_decide_eq_true rfl)).trans (f22 10 (of_decide_eq_true rfl))) ((f36 11 (of_decide_eq_true rfl)).trans (f22 11 (of_decide_eq_true rfl))) hI9
       have I44 : jI12 σ34 := jI12_fr ((congrFun (f36 12 (of_decide_eq_true rfl)) 0).trans (congrFun (f22 12 (of_decide_eq_true rfl)) 0)) ((f36 13 (of_decide_eq_true rfl)).trans (f22 13 (of_decide_eq_true rfl))) hI12
       have I45 : jI16 σ34 := jI16_fr ((congrFun (f36 16 (of_decide_eq_true rfl)) 0).trans (congrFun (f22 16 (of_decide_eq_true rfl)) 0)) ((congrFun (f36 16 (of_decide_eq_true rfl)) 1).trans (congrFun (f22 16 (of_decide_eq_true rfl)) 1)) ((congrFun (f36 16 (of_decide_eq_true rfl)) 2).trans (congrFun (f22 16 (of_decide_eq_true rfl)) 2)) ((f36 17 (of_decide_eq_true rfl)).trans (f22 17 (of_decide_eq_true rfl))) hI16
       have I46 : jI18 σ34 := jI18_fr ((congrFun (f36 18 (of_decide_eq_true rfl)) 0).trans (congrFun (f22 18 (of_decide_eq_true rfl)) 0)) ((f36 19 (of_decide_eq_true rfl)).trans (f22 19 (of_decide_eq_true rfl))) hI18
       have I47 : jI22 σ34 := jI22_fr ((congrFun (f36 22 (of_decide_eq_true rfl)) 0).trans (congrFun (f22 22 (of_decide_eq_true rfl)) 0)) ((f36 23 (of_decide_eq_true rfl)).trans (f22 23 (of_decide_eq_true rfl))) hI22
       exact by
        have I48 : jI31 σ34 := jI31_fr (congrFun (f36 31 (of_decide_eq_true rfl)) 8) (f36 33 (of_decide_eq_true rfl)) (f36 36 (of_decide_eq_true rfl)) I24
        have I49 : jI38 σ34 := jI38_fr ((congrFun (f36 38 (of_decide_eq_true rfl)) 0).trans (congrFun (f22 38 (of_decide_eq_true rfl)) 0)) ((congrFun (f36 38 (of_decide_eq_true rfl)) 1).trans (congrFun (f22 38 (of_decide_eq_true rfl)) 1)) ((f36 39 (of_decide_eq_true rfl)).trans (f22 39 (of_decide_eq_true rfl))) hI38
        have I50 : jI43 σ34 := jI43_fr ((congrFun (f36 43 (of_decide_eq_true rfl)) 8).trans (congrFun (f22 43 (of_decide_eq_true rfl)) 8)) hI43
        have I51 : jI47 σ34 := jI47_fr ((congrFun (f36 47 (of_decide_eq_true rfl)) 0).trans (congrFun (f22 47 (of_decide_eq_true rfl)) 0)) ((f36 48 (of_decide_eq_true rfl)).trans (f22 48 (of_decide_eq_true rfl))) ((f36 49 (of_decide_eq_true rfl)).trans (f22 49 (of_decide_eq_true rfl))) hI47
        have I52 : jI50 σ34 := jI50_fr ((f36 52 (of_decide_eq_true rfl)).trans (f22 52 (of_decide_eq_true rfl))) hI50
        have I53 : jI101 σ34 := jI101_fr (f37 4 (of_decide_eq_true rfl)) (f37 5 (of_decide_eq_true rfl)) (f36 56 (of_decide_eq_true rfl)) (f36 57 (of_decide_eq_true rfl)) (f36 58 (of_decide_eq_true rfl)) (f36 59 (of_decide_eq_true rfl)) I26
        have I54 : jI102 σ34 := jI102_fr (f37 6 (of_decide_eq_true rfl)) (f36 60 (of_decide_eq_true rfl)) (f36 61 (of_decide_eq_true rfl)) I27
        have I55 : jI103 σ34 := jI103_fr (f37 9 (of_decide_eq_true rfl)) I28
        have I56 : jI104 σ34 := jI104_fr (f37 10 (of_decide_eq_true rfl)) (f37 12 (of_decide_eq_true rfl)) (f37 13 (of_decide_eq_true rfl)) (f36 62 (of_decide_eq_true rfl)) (f36 67 (of_decide_eq_true rfl)) I29
        have I57 : jI105 σ34 := jI105_fr (f37 15 (of_decide_eq_true rfl)) (f36 65 (of_decide_eq_true rfl)) I30
        have I58 : jI106 σ34 := jI106_fr (f37 32 (of_decide_eq_true rfl)) (f36 70 (of_decide_eq_true rfl)) (f36 71 (of_decide_eq_true rfl)) (f36 72 (of_decide_eq_true rfl)) I31
        have I59 : jI107 σ34 := jI107_fr ((f37 12 (of_decide_eq_true rfl)).trans (congrFun (f22 55 (of_decide_eq_true rfl)) 12)) ((f37 47 (of_decide_eq_true rfl)).trans (congrFun (f22 55 (of_decide_eq_true rfl)) 47)) ((f36 80 (of_decide_eq_true rfl)).trans (f22 80 (of_decide_eq_true rfl))) hI107
        have I60 : jI109 σ34 := jI109_fr ((f37 50 (of_decide_eq_true rfl)).trans (congrFun (f22 55 (of_decide_eq_true rfl)) 50)) hI109
        have I61 : jI110 σ34 := jI110_fr ((f36 86 (of_decide_eq_true rfl)).trans (f22 86 (of_decide_eq_true rfl))) ((f36 87 (of_decide_eq_true rfl)).trans (f22 87 (of_decide_eq_true rfl))) hI110
        have I62 : jI111 σ34 := jI111_fr ((f36 79 (of_decide_eq_true rfl)).trans (f22 79 (of_decide_eq_true rfl))) hI111
        have p63 : jBook σ34 := jBook.fr ((f37 47 (of_decide_eq_true rfl)).trans (congrFun (f22 55 (of_decide_eq_true rfl)) 47)) ((f37 10 (of_decide_eq_true rfl)).trans (congrFun (f22 55 (of_decide_eq_true rfl)) 10)) ((f36 81 (of_decide_eq_true rfl)).trans (f22 81 (of_decide_eq_true rfl))) hs_jBook
        have z64 : (σ34 9 0).toInt = (σ 9 0).toInt := (congrArg Int32.toInt (show σ34 9 0 = (σ 9 0) from ((congrFun (f36 9 (of_decide_eq_true rfl)) 0).trans (congrFun (f22 9 (of_decide_eq_true rfl)) 0))))
        have z65 : (σ34 55 15).toInt = (σ 55 15).toInt := (congrArg Int32.toInt (show σ34 55 15 = (σ 55 15) from ((f37 15 (of_decide_eq_true rfl)).trans (congrFun (f22 55 (of_decide_eq_true rfl)) 15))))
        have z66 : (σ34 16 0).toInt = (σ 16 0).toInt := (congrArg Int32.toInt (show σ34 16 0 = (σ 16 0) from ((congrFun (f36 16 (of_decide_eq_true rfl)) 0).trans (congrFun (f22 16 (of_decide_eq_true rfl)) 0))))
        have z67 : (σ34 55 10).toInt = (σ 55 10).toInt := (congrArg Int32.toInt (show σ34 55 10 = (σ 55 10) from ((f37 10 (of_decide_eq_true rfl)).trans (congrFun (f22 55 (of_decide_eq_true rfl)) 10))))
        have z68 : (σ34 16 1).toInt = (σ 16 1).toInt := (congrArg Int32.toInt (show σ34 16 1 = (σ 16 1) from ((congrFun (f36 16 (of_decide_eq_true rfl)) 1).trans (congrFun (f22 16 (of_decide_eq_true rfl)) 1))))
        have z69 : (σ34 55 12).toInt = (σ 55 12).toInt := (congrArg Int32.toInt (show σ34 55 12 = (σ 55 12) from ((f37 12 (of_decide_eq_true rfl)).trans (congrFun (f22 55 (of_decide_eq_true rfl)) 12))))
        have z70 : (σ34 16 2).toInt = (σ 16 2).toInt := (congrArg Int32.toInt (show σ34 16 2 = (σ 16 2) from ((congrFun (f36 16 (of_decide_eq_true rfl)) 2).trans (congrFun (f22 16 (of_decide_eq_true rfl)) 2))))
        have z71 : (σ34 55 13).toInt = (σ 55 13).toInt := (congrArg Int32.toInt (show σ34 55 13 = (σ 55 13) from ((f37 13 (of_decide_eq_true rfl)).trans (congrFun (f22 55 (of_decide_eq_true rfl)) 13))))
        exact by exact ih x41 σ34 τ _ _ ls (by have h9 := tx41; omega) ⟨I42, I43, I44, I45, I46, I47, I48, I49, I50, I51, I52, I53, I54, I55, I56, I57, I58, I59, I60, I61, I62, I38, p39, p63, (by omega), (by omega), (by omega), (by omega), (show jTp (σ34 10) (σ34 63) (σ34 55 15).toInt by rw [show σ34 10 = σ 10 from ((f36 10 (of_decide_eq_true rfl)).trans (f22 10 (of_decide_eq_true rfl))), show σ34 63 = σ 63 from ((f36 63 (of_decide_eq_true rfl)).trans (f22 63 (of_decide_eq_true rfl)))]; exact hr0.le (by omega)), (show jSo (σ34 17) (σ34 62) (σ34 16 0).toInt by rw [show σ34 17 = σ 17 from ((f36 17 (of_decide_eq_true rfl)).trans (f22 17 (of_decide_eq_true rfl))), show σ34 62 = σ 62 from ((f36 62 (of_decide_eq_true rfl)).trans (f22 62 (of_decide_eq_true rfl))), show (σ34 16 0).toInt = (σ 16 0).toInt from by omega]; exact hr1)⟩ hP hS (lv_sub hl [0, 1, 2, 3] rfl)
set_option maxHeartbeats 4000000 in
set_option maxRecDepth 100000 in
theorem law_case_13 {p : Program} {e : Env} {s : State} {m : MethodId} {below : List Frame} {meth : Method} {c : Code} (l : Launch) {b L : Nat} {xs : Nat → Int32} {D : va_G} {cI cL : ClassId} {ad zz : Nat → Nat} (C0 : lw_At p s m meth c b L xs) (hJ : jD ad) (hA : ∀ q, jA ad q → s.heap.size ≤ q) (hK : jK D cI cL s) (hZ : jZ zz (fun q : Nat => s.heap.size ≤ q) s s.heap) {x0 : Int32} (hx0 : 0 ≤ x0.toInt) (hxL : x0.toInt + 6 ≤ (L : Int)) (hL : L ≤ 384) {σ : Nat → Nat → Int32} {τ : Nat → Nat → Int64} {H : Heap} {locs : List Loc} (hS : va_S (fun q : Nat => s.heap.size ≤ q) s.heap H locs) {ls : Array Slot} (hAll : jAll σ τ) (hP : jH D cI cL ad σ τ H) (hl : lv_has ls 4 [(3, .int x0), (2, .ref (ad 55)), (1, .ref (ad 0)), (0, .ref b)]) (ih : ∀ (x1 : Int32) (σ : Nat → Nat → Int32) (τ : Nat → Nat → Int64) (H : Heap) (locs : List Loc) (ls : Array Slot), x1.toInt = x0.toInt + 6 → jAll σ τ → jH D cI cL ad σ τ H → va_S (fun q : Nat => s.heap.size ≤ q) s.heap H locs → lv_has ls 4 [(3, .int x1), (2, .ref (ad 55)), (1, .ref (ad 0)), (0, .ref b)] → W p l e room_1 s m #[Value.ref b] below meth c H locs 90 348600 (lw_Z below #[Value.ref b] s) (F0 m 18 ls [])) : W p l e room_1 s m #[Value.ref b] below meth c H locs 90 348600 (lw_Z below #[Value.ref b] s) (F0 m 605 ls []) := by
  obtain ⟨hx, hb, hr, hml, hown, hts0, hX, hbl, hlocks, hgv⟩ := C0
  have hts : ∀ w ∈ wsL_law, w.before #[Value.ref b] s = true := fun w h => hts0 w (wsL_law_in w h)
  have hbA : ¬ (fun q : Nat => s.heap.size ≤ q) b := Nat.not_le.mpr hbl
  have hown : s.vm.findClass RL = some m.cls := hown
  obtain ⟨hI2, hI9, hI12, hI16, hI18, hI22, hI31, hI38, hI43, hI47, hI50, hI101, hI102, hI103, hI104, hI105, hI106, hI107, hI109, hI110, hI111, hI119, hs_jKept, hs_jBook, ht0, ht1, ht2, ht3, hr0, hr1⟩ := hAll
  have hL9 : (L : Int) ≤ 384 := by omega
  obtain ⟨i1, w2, w3⟩ : (0 ≤ (σ 9 0).toInt ∧ (σ 9 0).toInt ≤ 80) ∧ (∀ k : Nat, k < 80 → 0 ≤ (σ 10 k).toInt ∧ (σ 10 k).toInt ≤ 255) ∧ (∀ k : Nat, k < 8 → 0 ≤ (σ 11 k).toInt ∧ (σ 11 k).toInt ≤ 3) := id hI9
  obtain ⟨i4, i5, i6, w7⟩ : (1 ≤ (σ 16 0).toInt ∧ (σ 16 0).toInt ≤ 8) ∧ (1 ≤ (σ 16 1).toInt ∧ (σ 16 1).toInt ≤ 12) ∧ (0 ≤ (σ 16 2).toInt ∧ (σ 16 2).toInt ≤ 999) ∧ (∀ k : Nat, k < 8 → 0 ≤ (σ 17 k).toInt ∧ (σ 17 k).toInt ≤ 3) := id hI16
  obtain ⟨i8, i9, i10, w11, w12⟩ : (1 ≤ (σ 55 10).toInt ∧ (σ 55 10).toInt ≤ 8) ∧ (1 ≤ (σ 55 12).toInt ∧ (σ 55 12).toInt ≤ 12) ∧ (0 ≤ (σ 55 13).toInt ∧ (σ 55 13).toInt ≤ 999) ∧ (∀ k : Nat, k < 8 → 0 ≤ (σ 62 k).toInt ∧ (σ 62 k).toInt ≤ 3) ∧ (∀ k : Nat, k < 8 → 0 ≤ (σ 67 k).toInt ∧ (σ 67 k).toInt ≤ 3) := id hI104
  obtain ⟨i13, w14⟩ : (0 ≤ (σ 55 15).toInt ∧ (σ 55 15).toInt ≤ 80) ∧ (∀ k : Nat, k < 2 → (-1) ≤ (σ 65 k).toInt ∧ (σ 65 k).toInt ≤ 80) := id hI105
  refine lv_aload_n hx hb dL_law_605 rfl (lv_at hl 2 rfl) ?_
  refine lv_aload_n hx hb dL_law_606 rfl (lv_at hl 3 rfl) ?_
  refine lv_iload_n hx hb dL_law_607 rfl (lv_at hl 0 rfl) ?_
  refine lv_iconst (v := 1) hx hb dL_law_608 (of_decide_eq_true rfl) ?_
  have g15 := jrg (rfl : x0.toInt = x0.toInt)
  refine lv_iadd hx hb dL_law_609 ?_
  refine lv_topi (fun x16 ex16 => ?_)
  exact by
   have tx16 : x16.toInt = x0.toInt + 1 := (jadd ex16 rfl jz_1 (by omega) (by omega)).trans (by omega)
   refine va_sld hx hb hX hbl hbA hS (jin tx16 (by omega) (by omega)) dL_law_610 ?_
   have g17 := jrg (rfl : (xs x16.toNatClampNeg).toInt = (xs x16.toNatClampNeg).toInt)
   refine jcallV (As := [.int (xs x16.toNatClampNeg)]) (rest := []) ⟨hx, hb, hml, hown, hts⟩ hK hP hA hS hZ (c_X11_best l D cI cL ad zz hJ σ τ (xs x16.toNatClampNeg) ((xs x16.toNatClampNeg).toInt) rfl hI2 hI16 hI22 hI31 hI47) cw_RL_69 (jc_0 cI cL ad σ τ) rfl ⟨Nat.le_of_ble_eq_true rfl, Nat.le_of_ble_eq_true rfl⟩ rfl rfl rfl hl.1 rfl (Nat.le_of_ble_eq_true rfl) dL_law_611 ⟨Nat.le_of_ble_eq_true rfl, Nat.le_of_ble_eq_true rfl⟩ (fun r19 σ18 τ18 H locs h18 hP hS => ?_)
   obtain ⟨rfl, f20, f21, I22, h18⟩ := h18
   refine lv_pop hx hb dL_law_614 rfl ?_
   refine lv_aload_n hx hb dL_law_615 rfl (lv_at hl 1 rfl) ?_
   refine lv_aload_n hx hb dL_law_616 rfl (lv_at hl 3 rfl) ?_
   refine lv_iload_n hx hb dL_law_617 rfl (lv_at hl 0 rfl) ?_
   exact by
    refine lv_iconst (v := 1) hx hb dL_law_618 (of_decide_eq_true rfl) ?_
    refine lv_iadd hx hb dL_law_619 ?_
    refine jtopr ex16.symm ?_
    refine va_sld hx hb hX hbl hbA hS (jin tx16 (by omega) (by omega)) dL_law_620 ?_
    have I24 : jI101 σ18 := jI101_fr (congrFun (f20 55 (of_decide_eq_true rfl)) 4) (congrFun (f20 55 (of_decide_eq_true rfl)) 5) (f20 56 (of_decide_eq_true rfl)) (f20 57 (of_decide_eq_true rfl)) (f20 58 (of_decide_eq_true rfl)) (f20 59 (of_decide_eq_true rfl)) hI101
    have I25 : jI102 σ18 := jI102_fr (congrFun (f20 55 (of_decide_eq_true rfl)) 6) (f20 60 (of_decide_eq_true rfl)) (f20 61 (of_decide_eq_true rfl)) hI102
    have I26 : jI103 σ18 := jI103_fr (congrFun (f20 55 (of_decide_eq_true rfl)) 9) hI103
    have I27 : jI104 σ18 := jI104_fr (congrFun (f20 55 (of_decide_eq_true rfl)) 10) (congrFun (f20 55 (of_decide_eq_true rfl)) 12) (congrFun (f20 55 (of_decide_eq_true rfl)) 13) (f20 62 (of_decide_eq_true rfl)) (f20 67 (of_decide_eq_true rfl)) hI104
    have I28 : jI105 σ18 := jI105_fr (congrFun (f20 55 (of_decide_eq_true rfl)) 15) (f20 65 (of_decide_eq_true rfl)) hI105
    exact by
     have I29 : jI106 σ18 := jI106_fr (congrFun (f20 55 (of_decide_eq_true rfl)) 32) (f20 70 (of_decide_eq_true rfl)) (f20 71 (of_decide_eq_true rfl)) (f20 72 (of_decide_eq_true rfl)) hI106
     have I30 : jI107 σ18 := jI107_fr (congrFun (f20 55 (of_decide_eq_true rfl)) 12) (congrFun (f20 55 (of_decide_eq_true rfl)) 47) (f20 80 (of_decide_eq_true rfl)) hI107
     have I31 : jI119 σ18 := jI119_fr (f20 68 (of_decide_eq_true rfl)) hI119
     have p32 : jKept σ18 := jKept.fr (f20 75 (of_decide_eq_true rfl)) (f20 76 (of_decide_eq_true rfl)) (f20 77 (of_decide_eq_true rfl)) hs_jKept
     have p33 : jBook σ18 := jBook.fr (congrFun (f20 55 (of_decide_eq_true rfl)) 47) (congrFun (f20 55 (of_decide_eq_true rfl)) 10) (f20 81 (of_decide_eq_true rfl)) hs_jBook
     refine jcallV (As := [.int (xs x16.toNatClampNeg)]) (rest := []) ⟨hx, hb, hml, hown, hts⟩ hK hP hA hS hZ (c_X12_best l D cI cL ad zz hJ σ18 τ (xs x16.toNatClampNeg) ((xs x16.toNatClampNeg).toInt) rfl I24 I25 I26 I27 I28 I29 I30 I31 p32 p33) cw_RL_72 (jc_55 cI cL ad σ18 τ) rfl ⟨Nat.le_of_ble_eq_true rfl, Nat.le_of_ble_eq_true rfl⟩ rfl rfl rfl hl.1 rfl (Nat.le_of_ble_eq_true rfl) dL_law_621 ⟨Nat.le_of_ble_eq_true rfl, Nat.le_of_ble_eq_true rfl⟩ (fun r35 σ34 τ34 H locs h34 hP hS => ?_)
     obtain ⟨rfl, f36, f37, I38, p39, p40, h34⟩ := h34
     refine lv_pop hx hb dL_law_624 rfl ?_
     refine lv_goto (tgt := 1357) hx hb dL_law_625 (of_decide_eq_true rfl) ?_
     obtain ⟨x42, ex42⟩ : ∃ y : Int32, y = x0 + 6 := ⟨_, rfl⟩
     exact by
      have tx42 : x42.toInt = x0.toInt + 6 := (jadd ex42 rfl jz_6 (by omega) (by omega)).trans (by omega)
      refine lv_iinc (v := x42) (lv' := [(3, .int x42), (2, .ref (ad 55)), (1, .ref (ad 0)), (0, .ref b)]) hx hb dL_law_1357 hl (k := 0) rfl (by rw [ex42]; rfl) (of_decide_eq_true rfl) rfl (fun ls hl => ?_)
      refine lv_goto (tgt := 18) hx hb dL_law_1360 (of_decide_eq_true rfl) ?_
      have I43 : jI2 σ34 := jI2_fr ((congrFun (f36 2 (of_decide_eq_true rfl)) 0).trans (congrFun (f20 2 (of_decide_eq_true rfl)) 0)) ((congrFun (f36 2 (of_decide_eq_true rfl)) 1).trans (congrFun (f20 2 (of_decide_eq_true rfl)) 1)) ((congrFun (f36 2 (of_decide_eq_true rfl)) 2).trans (congrFun (f20 2 (of_decide_eq_true rfl)) 2)) ((congrFun (f36 2 (of_decide_eq_true rfl)) 3).trans (congrFun (f20 2 (of_decide_eq_true rfl)) 3)) ((f36 6 (of_decide_eq_true rfl)).trans (f20 6 (of_decide_eq_true rfl))) hI2
      have I44 : jI9 σ34 := jI9_fr ((congrFun (f36 9 (of_decide_eq_true rfl)) 0).trans (congrFun (f20 9 (of_decide_eq_true rfl)) 0)) ((f36 10 (of_decide_eq_true rfl)).trans (f20 10 (of_decide_eq_true rfl))) ((f36 11 (of_decide_eq_true rfl)).trans (f20 11 (of_decide_eq_true rfl))) hI9
      have I45 : jI12 σ34 := jI12_fr ((congrFun (f36 12 (of_decide_eq_true rfl)) 0).trans (congrFun (f20 12 (of_decide_eq_true rfl)) 0)) ((f36 13 (of_decide_eq_true rfl)).trans (f20 13 (of_decide_eq_true rfl))) hI12
      have I46 : jI16 σ34 := jI16_fr ((congrFun (f36 16 (of_decide_eq_true rfl)) 0).trans (congrFun (f20 16 (of_decide_eq_true rfl)) 0)) ((congrFun (f36 16 (of_decide_eq_true rfl)) 1).trans (congrFun (f20 16 (of_decide_eq_true rfl)) 1)) ((congrFun (f36 16 (of_decide_eq_true rfl)) 2).trans (congrFun (f20 16 (of_decide_eq_true rfl)) 2)) ((f36 17 (of_decide_eq_true rfl)).trans (f20 17 (of_decide_eq_true rfl))) hI16
      have I47 : jI18 σ34 := jI18_fr ((congrFun (f36 18 (of_decide_eq_true rfl)) 0).trans (congrFun (f20 18 (of_decide_eq_true rfl)) 0)) ((f36 19 (of_decide_eq_true rfl)).trans (f20 19 (of_decide_eq_true rfl))) hI18
      have I48 : jI22 σ34 := jI22_fr ((congrFun (f36 22 (of_decide_eq_true rfl)) 0).trans (congrFun (f20 22 (of_decide_eq_true rfl)) 0)) ((f36 23 (of_decide_eq_true rfl)).trans (f20 23 (of_decide_eq_true rfl))) hI22
      exact by
       have I49 : jI31 σ34 := jI31_fr (congrFun (f36 31 (of_decide_eq_true rfl)) 8) (f36 33 (of_decide_eq_true rfl)) (f36 36 (of_decide_eq_true rfl)) I22
       have I50 : jI38 σ34 := jI38_fr ((congrFun (f36 38 (of_decide_eq_true rfl)) 0).trans (congrFun (f20 38 (of_decide_eq_true rfl)) 0)) ((congrFun (f36 38 (of_decide_eq_true rfl)) 1).trans (congrFun (f20 38 (of_decide_eq_true rfl)) 1)) ((f36 39 (of_decide_eq_true rfl)).trans (f20 39 (of_decide_eq_true rfl))) hI38
       have I51 : jI43 σ34 := jI43_fr ((congrFun (f36 43 (of_decide_eq_true rfl)) 8).trans (congrFun (f20 43 (of_decide_eq_true rfl)) 8)) hI43
       have I52 : jI47 σ34 := jI47_fr ((congrFun (f36 47 (of_decide_eq_true rfl)) 0).trans (congrFun (f20 47 (of_decide_eq_true rfl)) 0)) ((f36 48 (of_decide_eq_true rfl)).trans (f20 48 (of_decide_eq_true rfl))) ((f36 49 (of_decide_eq_true rfl)).trans (f20 49 (of_decide_eq_true rfl))) hI47
       have I53 : jI50 σ34 := jI50_fr ((f36 52 (of_decide_eq_true rfl)).trans (f20 52 (of_decide_eq_true rfl))) hI50
       have I54 : jI101 σ34 := jI101_fr (f37 4 (of_decide_eq_true rfl)) (f37 5 (of_decide_eq_true rfl)) (f36 56 (of_decide_eq_true rfl)) (f36 57 (of_decide_eq_true rfl)) (f36 58 (of_decide_eq_true rfl)) (f36 59 (of_decide_eq_true rfl)) I24
       have I55 : jI102 σ34 := jI102_fr (f37 6 (of_decide_eq_true rfl)) (f36 60 (of_decide_eq_true rfl)) (f36 61 (of_decide_eq_true rfl)) I25
       have I56 : jI103 σ34 := jI103_fr (f37 9 (of_decide_eq_true rfl)) I26
       have I57 : jI104 σ34 := jI104_fr (f37 10 (of_decide_eq_true rfl)) (f37 12 (of_decide_eq_true rfl)) (f37 13 (of_decide_eq_true rfl)) (f36 62 (of_decide_eq_true rfl)) (f36 67 (of_decide_eq_true rfl)) I27
       have I58 : jI105 σ34 := jI105_fr (f37 15 (of_decide_eq_true rfl)) (f36 65 (of_decide_eq_true rfl)) I28
       have I59 : jI106 σ34 := jI106_fr (f37 32 (of_decide_eq_true rfl)) (f36 70 (of_decide_eq_true rfl)) (f36 71 (of_decide_eq_true rfl)) (f36 72 (of_decide_eq_true rfl)) I29
       have I60 : jI107 σ34 := jI107_fr (f37 12 (of_decide_eq_true rfl)) (f37 47 (of_decide_eq_true rfl)) (f36 80 (of_decide_eq_true rfl)) I30
       have I61 : jI109 σ34 := jI109_fr ((f37 50 (of_decide_eq_true rfl)).trans (congrFun (f20 55 (of_decide_eq_true rfl)) 50)) hI109
       have I62 : jI110 σ34 := jI110_fr ((f36 86 (of_decide_eq_true rfl)).trans (f20 86 (of_decide_eq_true rfl))) ((f36 87 (of_decide_eq_true rfl)).trans (f20 87 (of_decide_eq_true rfl))) hI110
       have I63 : jI111 σ34 := jI111_fr ((f36 79 (of_decide_eq_true rfl)).trans (f20 79 (of_decide_eq_true rfl))) hI111
       have z64 : (σ34 9 0).toInt = (σ 9 0).toInt := (congrArg Int32.toInt (show σ34 9 0 = (σ 9 0) from ((congrFun (f36 9 (of_decide_eq_true rfl)) 0).trans (congrFun (f20 9 (of_decide_eq_true rfl)) 0))))
       have z65 : (σ34 55 15).toInt = (σ 55 15).toInt := (congrArg Int32.toInt (show σ34 55 15 = (σ 55 15) from ((f37 15 (of_decide_eq_true rfl)).trans (congrFun (f20 55 (of_decide_eq_true rfl)) 15))))
       have z66 : (σ34 16 0).toInt = (σ 16 0).toInt := (congrArg Int32.toInt (show σ34 16 0 = (σ 16 0) from ((congrFun (f36 16 (of_decide_eq_true rfl)) 0).trans (congrFun (f20 16 (of_decide_eq_true rfl)) 0))))
       have z67 : (σ34 55 10).toInt = (σ 55 10).toInt := (congrArg Int32.toInt (show σ34 55 10 = (σ 55 10) from ((f37 10 (of_decide_eq_true rfl)).trans (congrFun (f20 55 (of_decide_eq_true rfl)) 10))))
       have z68 : (σ34 16 1).toInt = (σ 16 1).toInt := (congrArg Int32.toInt (show σ34 16 1 = (σ 16 1) from ((congrFun (f36 16 (of_decide_eq_true rfl)) 1).trans (congrFun (f20 16 (of_decide_eq_true rfl)) 1))))
       have z69 : (σ34 55 12).toInt = (σ 55 12).toInt := (congrArg Int32.toInt (show σ34 55 12 = (σ 55 12) from ((f37 12 (of_decide_eq_true rfl)).trans (congrFun (f20 55 (of_decide_eq_true rfl)) 12))))
       have z70 : (σ34 16 2).toInt = (σ 16 2).toInt := (congrArg Int32.toInt (show σ34 16 2 = (σ 16 2) from ((congrFun (f36 16 (of_decide_eq_true rfl)) 2).trans (congrFun (f20 16 (of_decide_eq_true rfl)) 2))))
       have z71 : (σ34 55 13).toInt = (σ 55 13).toInt := (congrArg Int32.toInt (show σ34 55 13 = (σ 55 13) from ((f37 13 (of_decide_eq_true rfl)).trans (congrFun (f20 55 (of_decide_eq_true rfl)) 13))))
       exact by exact ih x42 σ34 τ _ _ ls (by have h9 := tx42; omega) ⟨I43, I44, I45, I46, I47, I48, I49, I50, I51, I52, I53, I54, I55, I56, I57, I58, I59, I60, I61, I62, I63, I38, p39, p40, (by omega), (by omega), (by omega), (by omega), (show jTp (σ34 10) (σ34 63) (σ34 55 15).toInt by rw [show σ34 10 = σ 10 from ((f36 10 (of_decide_eq_true rfl)).trans (f20 10 (of_decide_eq_true rfl))), show σ34 63 = σ 63 from ((f36 63 (of_decide_eq_true rfl)).trans (f20 63 (of_decide_eq_true rfl)))]; exact hr0.le (by omega)), (show jSo (σ34 17) (σ34 62) (σ34 16 0).toInt by rw [show σ34 17 = σ 17 from ((f36 17 (of_decide_eq_true rfl)).trans (f20 17 (of_decide_eq_true rfl))), show σ34 62 = σ 62 from ((f36 62 (of_decide_eq_true rfl)).trans (f20 62 (of_decide_eq_true rfl))), show (σ34 16 0).toInt = (σ 16 0).toInt from by omega]; exact hr1)⟩ hP hS (lv_sub hl [0, 1, 2, 3] rfl)
set_option maxHeartbeats 4000000 in
set_option maxRecDepth 100000 in
theorem law_case_14 {p : Program} {e : Env} {s : State} {m : MethodId} {below : List Frame} {meth : Method} {c : Code} (l : Launch) {b L : Nat} {xs : Nat → Int32} {D : va_G} {cI cL : ClassId} {ad zz : Nat → Nat} (C0 : lw_At p s m meth c b L xs) (hJ : jD ad) (hA : ∀ q, jA ad q → s.heap.size ≤ q) (hK : jK D cI cL s) (hZ : jZ zz (fun q : Nat => s.heap.size ≤ q) s s.heap) {x0 : Int32} (hx0 : 0 ≤ x0.toInt) (hxL : x0.toInt + 6 ≤ (L : Int)) (hL : L ≤ 384) {σ : Nat → Nat → Int32} {τ : Nat → Nat → Int64} {H : Heap} {locs : List Loc} (hS : va_S (fun q : Nat => s.heap.size ≤ q) s.heap H locs) {ls : Array Slot} (hAll : jAll σ τ) (hP : jH D cI cL ad σ τ H) (hl : lv_has ls 4 [(3, .int x0), (2, .ref (ad 55)), (1, .ref (ad 0)), (0, .ref b)]) (ih : ∀ (x1 : Int32) (σ : Nat → Nat → Int32) (τ : Nat → Nat → Int64) (H : Heap) (locs : List Loc) (ls : Array Slot), x1.toInt = x0.toInt + 6 → jAll σ τ → jH D cI cL ad σ τ H → va_S (fun q : Nat => s.heap.size ≤ q) s.heap H locs → lv_has ls 4 [(3, .int x1), (2, .ref (ad 55)), (1, .ref (ad 0)), (0, .ref b)] → W p l e room_1 s m #[Value.ref b] below meth c H locs 90 348600 (lw_Z below #[Value.ref b] s) (F0 m 18 ls [])) : W p l e room_1 s m #[Value.ref b] below meth c H locs 90 348600 (lw_Z below #[Value.ref b] s) (F0 m 628 ls []) := by
  obtain ⟨hx, hb, hr, hml, hown, hts0, hX, hbl, hlocks, hgv⟩ := C0
  have hts : ∀ w ∈ wsL_law, w.before #[Value.ref b] s = true := fun w h => hts0 w (wsL_law_in w h)
  have hbA : ¬ (fun q : Nat => s.heap.size ≤ q) b := Nat.not_le.mpr hbl
  have hown : s.vm.findClass RL = some m.cls := hown
  obtain ⟨hI2, hI9, hI12, hI16, hI18, hI22, hI31, hI38, hI43, hI47, hI50, hI101, hI102, hI103, hI104, hI105, hI106, hI107, hI109, hI110, hI111, hI119, hs_jKept, hs_jBook, ht0, ht1, ht2, ht3, hr0, hr1⟩ := hAll
  have hL9 : (L : Int) ≤ 384 := by omega
  obtain ⟨i1, w2, w3⟩ : (0 ≤ (σ 9 0).toInt ∧ (σ 9 0).toInt ≤ 80) ∧ (∀ k : Nat, k < 80 → 0 ≤ (σ 10 k).toInt ∧ (σ 10 k).toInt ≤ 255) ∧ (∀ k : Nat, k < 8 → 0 ≤ (σ 11 k).toInt ∧ (σ 11 k).toInt ≤ 3) := id hI9
  obtain ⟨i4, i5, i6, w7⟩ : (1 ≤ (σ 16 0).toInt ∧ (σ 16 0).toInt ≤ 8) ∧ (1 ≤ (σ 16 1).toInt ∧ (σ 16 1).toInt ≤ 12) ∧ (0 ≤ (σ 16 2).toInt ∧ (σ 16 2).toInt ≤ 999) ∧ (∀ k : Nat, k < 8 → 0 ≤ (σ 17 k).toInt ∧ (σ 17 k).toInt ≤ 3) := id hI16
  obtain ⟨i8, i9, i10, w11, w12⟩ : (1 ≤ (σ 55 10).toInt ∧ (σ 55 10).toInt ≤ 8) ∧ (1 ≤ (σ 55 12).toInt ∧ (σ 55 12).toInt ≤ 12) ∧ (0 ≤ (σ 55 13).toInt ∧ (σ 55 13).toInt ≤ 999) ∧ (∀ k : Nat, k < 8 → 0 ≤ (σ 62 k).toInt ∧ (σ 62 k).toInt ≤ 3) ∧ (∀ k : Nat, k < 8 → 0 ≤ (σ 67 k).toInt ∧ (σ 67 k).toInt ≤ 3) := id hI104
  obtain ⟨i13, w14⟩ : (0 ≤ (σ 55 15).toInt ∧ (σ 55 15).toInt ≤ 80) ∧ (∀ k : Nat, k < 2 → (-1) ≤ (σ 65 k).toInt ∧ (σ 65 k).toInt ≤ 80) := id hI105
  refine lv_aload_n hx hb dL_law_628 rfl (lv_at hl 2 rfl) ?_
  refine lv_aload_n hx hb dL_law_629 rfl (lv_at hl 3 rfl) ?_
  refine lv_iload_n hx hb dL_law_630 rfl (lv_at hl 0 rfl) ?_
  refine lv_iconst (v := 1) hx hb dL_law_631 (of_decide_eq_true rfl) ?_
  have g15 := jrg (rfl : x0.toInt = x0.toInt)
  refine lv_iadd hx hb dL_law_632 ?_
  refine lv_topi (fun x16 ex16 => ?_)
  exact by
   have tx16 : x16.toInt = x0.toInt + 1 := (jadd ex16 rfl jz_1 (by omega) (by omega)).trans (by omega)
   refine va_sld hx hb hX hbl hbA hS (jin tx16 (by omega) (by omega)) dL_law_633 ?_
   have g17 := jrg (rfl : (xs x16.toNatClampNeg).toInt = (xs x16.toNatClampNeg).toInt)
   refine lv_aload_n hx hb dL_law_634 rfl (lv_at hl 3 rfl) ?_
   refine lv_iload_n hx hb dL_law_635 rfl (lv_at hl 0 rfl) ?_
   refine lv_iconst (v := 2) hx hb dL_law_636 (of_decide_eq_true rfl) ?_
   refine lv_iadd hx hb dL_law_637 ?_
   refine lv_topi (fun x18 ex18 => ?_)
   have tx18 : x18.toInt = x0.toInt + 2 := (jadd ex18 rfl jz_2 (by omega) (by omega)).trans (by omega)
   exact by
    refine va_sld hx hb hX hbl hbA hS (jin tx18 (by omega) (by omega)) dL_law_638 ?_
    have g19 := jrg (rfl : (xs x18.toNatClampNeg).toInt = (xs x18.toNatClampNeg).toInt)
    refine jcallV (As := [.int (xs x16.toNatClampNeg), .int (xs x18.toNatClampNeg)]) (rest := []) ⟨hx, hb, hml, hown, hts⟩ hK hP hA hS hZ (c_X11_worth l D cI cL ad zz hJ σ τ (xs x16.toNatClampNeg) ((xs x16.toNatClampNeg).toInt) rfl (xs x18.toNatClampNeg) ((xs x18.toNatClampNeg).toInt) rfl hI2 hI16 hI22 hI31) cw_RL_73 (jc_0 cI cL ad σ τ) rfl ⟨Nat.le_of_ble_eq_true rfl, Nat.le_of_ble_eq_true rfl⟩ rfl rfl rfl hl.1 rfl (Nat.le_of_ble_eq_true rfl) dL_law_639 ⟨Nat.le_of_ble_eq_true rfl, Nat.le_of_ble_eq_true rfl⟩ (fun r21 σ20 τ20 H locs h20 hP hS => ?_)
    obtain ⟨rfl, f22, f23, I24, h20⟩ := h20
    refine lv_pop hx hb dL_law_642 rfl ?_
    refine lv_aload_n hx hb dL_law_643 rfl (lv_at hl 1 rfl) ?_
    refine lv_aload_n hx hb dL_law_644 rfl (lv_at hl 3 rfl) ?_
    refine lv_iload_n hx hb dL_law_645 rfl (lv_at hl 0 rfl) ?_
    refine lv_iconst (v := 1) hx hb dL_law_646 (of_decide_eq_true rfl) ?_
    refine lv_iadd hx hb dL_law_647 ?_
    refine jtopr ex16.symm ?_
    exact by
     refine va_sld hx hb hX hbl hbA hS (jin tx16 (by omega) (by omega)) dL_law_648 ?_
     refine lv_aload_n hx hb dL_law_649 rfl (lv_at hl 3 rfl) ?_
     refine lv_iload_n hx hb dL_law_650 rfl (lv_at hl 0 rfl) ?_
     refine lv_iconst (v := 2) hx hb dL_law_651 (of_decide_eq_true rfl) ?_
     refine lv_iadd hx hb dL_law_652 ?_
     refine jtopr ex18.symm ?_
     refine va_sld hx hb hX hbl hbA hS (jin tx18 (by omega) (by omega)) dL_law_653 ?_
     have I26 : jI101 σ20 := jI101_fr (congrFun (f22 55 (of_decide_eq_true rfl)) 4) (congrFun (f22 55 (of_decide_eq_true rfl)) 5) (f22 56 (of_decide_eq_true rfl)) (f22 57 (of_decide_eq_true rfl)) (f22 58 (of_decide_eq_true rfl)) (f22 59 (of_decide_eq_true rfl)) hI101
     have I27 : jI102 σ20 := jI102_fr (congrFun (f22 55 (of_decide_eq_true rfl)) 6) (f22 60 (of_decide_eq_true rfl)) (f22 61 (of_decide_eq_true rfl)) hI102
     exact by
      have I28 : jI103 σ20 := jI103_fr (congrFun (f22 55 (of_decide_eq_true rfl)) 9) hI103
      have I29 : jI104 σ20 := jI104_fr (congrFun (f22 55 (of_decide_eq_true rfl)) 10) (congrFun (f22 55 (of_decide_eq_true rfl)) 12) (congrFun (f22 55 (of_decide_eq_true rfl)) 13) (f22 62 (of_decide_eq_true rfl)) (f22 67 (of_decide_eq_true rfl)) hI104
      have I30 : jI105 σ20 := jI105_fr (congrFun (f22 55 (of_decide_eq_true rfl)) 15) (f22 65 (of_decide_eq_true rfl)) hI105
      have I31 : jI106 σ20 := jI106_fr (congrFun (f22 55 (of_decide_eq_true rfl)) 32) (f22 70 (of_decide_eq_true rfl)) (f22 71 (of_decide_eq_true rfl)) (f22 72 (of_decide_eq_true rfl)) hI106
      have I32 : jI119 σ20 := jI119_fr (f22 68 (of_decide_eq_true rfl)) hI119
      have p33 : jKept σ20 := jKept.fr (f22 75 (of_decide_eq_true rfl)) (f22 76 (of_decide_eq_true rfl)) (f22 77 (of_decide_eq_true rfl)) hs_jKept
      have z34 : (σ20 55 30).toInt = (σ 55 30).toInt := (congrArg Int32.toInt (show σ20 55 30 = (σ 55 30) from (congrFun (f22 55 (of_decide_eq_true rfl)) 30)))
      have z35 : (σ20 55 31).toInt = (σ 55 31).toInt := (congrArg Int32.toInt (show σ20 55 31 = (σ 55 31) from (congrFun (f22 55 (of_decide_eq_true rfl)) 31)))
      refine jcallV (As := [.int (xs x16.toNatClampNeg), .int (xs x18.toNatClampNeg)]) (rest := []) ⟨hx, hb, hml, hown, hts⟩ hK hP hA hS hZ (c_X12_worth l D cI cL ad zz hJ σ20 τ (xs x16.toNatClampNeg) ((xs x16.toNatClampNeg).toInt) rfl (xs x18.toNatClampNeg) ((xs x18.toNatClampNeg).toInt) rfl I26 I27 I28 I29 I30 I31 I32 p33) cw_RL_76 (jc_55 cI cL ad σ20 τ) rfl ⟨Nat.le_of_ble_eq_true rfl, Nat.le_of_ble_eq_true rfl⟩ rfl rfl rfl hl.1 rfl (Nat.le_of_ble_eq_true rfl) dL_law_654 ⟨Nat.le_of_ble_eq_true rfl, Nat.le_of_ble_eq_true rfl⟩ (fun r37 σ36 τ36 H locs h36 hP hS => ?_)
      obtain ⟨rfl, f38, f39, I40, p41, h36⟩ := h36
      obtain ⟨k43, h36⟩ := h36
      refine lv_pop hx hb dL_law_657 rfl ?_
      refine lv_goto (tgt := 1357) hx hb dL_law_658 (of_decide_eq_true rfl) ?_
      obtain ⟨x44, ex44⟩ : ∃ y : Int32, y = x0 + 6 := ⟨_, rfl⟩
      exact by
       have tx44 : x44.toInt = x0.toInt + 6 := (jadd ex44 rfl jz_6 (by omega) (by omega)).trans (by omega)
       refine lv_iinc (v := x44) (lv' := [(3, .int x44), (2, .ref (ad 55)), (1, .ref (ad 0)), (0, .ref b)]) hx hb dL_law_1357 hl (k := 0) rfl (by rw [ex44]; rfl) (of_decide_eq_true rfl) rfl (fun ls hl => ?_)
       refine lv_goto (tgt := 18) hx hb dL_law_1360 (of_decide_eq_true rfl) ?_
       have I45 : jI2 σ36 := jI2_fr ((congrFun (f38 2 (of_decide_eq_true rfl)) 0).trans (congrFun (f22 2 (of_decide_eq_true rfl)) 0)) ((congrFun (f38 2 (of_decide_eq_true rfl)) 1).trans (congrFun (f22 2 (of_decide_eq_true rfl)) 1)) ((congrFun (f38 2 (of_decide_eq_true rfl)) 2).trans (congrFun (f22 2 (of_decide_eq_true rfl)) 2)) ((congrFun (f38 2 (of_decide_eq_true rfl)) 3).trans (congrFun (f22 2 (of_decide_eq_true rfl)) 3)) ((f38 6 (of_decide_eq_true rfl)).trans (f22 6 (of_decide_eq_true rfl))) hI2
       have I46 : jI9 σ36 := jI9_fr ((congrFun (f38 9 (of_decide_eq_true rfl)) 0).trans (congrFun (f22 9 (of_decide_eq_true rfl)) 0)) ((f38 10 (of_decide_eq_true rfl)).trans (f22 10 (of_decide_eq_true rfl))) ((f38 11 (of_decide_eq_true rfl)).trans (f22 11 (of_decide_eq_true rfl))) hI9
       have I47 : jI12 σ36 := jI12_fr ((congrFun (f38 12 (of_decide_eq_true rfl)) 0).trans (congrFun (f22 12 (of_decide_eq_true rfl)) 0)) ((f38 13 (of_decide_eq_true rfl)).trans (f22 13 (of_decide_eq_true rfl))) hI12
       have I48 : jI16 σ36 := jI16_fr ((congrFun (f38 16 (of_decide_eq_true rfl)) 0).trans (congrFun (f22 16 (of_decide_eq_true rfl)) 0)) ((congrFun (f38 16 (of_decide_eq_true rfl)) 1).trans (congrFun (f22 16 (of_decide_eq_true rfl)) 1)) ((congrFun (f38 16 (of_decide_eq_true rfl)) 2).trans (congrFun (f22 16 (of_decide_eq_true rfl)) 2)) ((f38 17 (of_decide_eq_true rfl)).trans (f22 17 (of_decide_eq_true rfl))) hI16
       have I49 : jI18 σ36 := jI18_fr ((congrFun (f38 18 (of_decide_eq_true rfl)) 0).trans (congrFun (f22 18 (of_decide_eq_true rfl)) 0)) ((f38 19 (of_decide_eq_true rfl)).trans (f22 19 (of_decide_eq_true rfl))) hI18
       have I50 : jI22 σ36 := jI22_fr ((congrFun (f38 22 (of_decide_eq_true rfl)) 0).trans (congrFun (f22 22 (of_decide_eq_true rfl)) 0)) ((f38 23 (of_decide_eq_true rfl)).trans (f22 23 (of_decide_eq_true rfl))) hI22
       exact by
        have I51 : jI31 σ36 := jI31_fr (congrFun (f38 31 (of_decide_eq_true rfl)) 8) (f38 33 (of_decide_eq_true rfl)) (f38 36 (of_decide_eq_true rfl)) I24
        have I52 : jI38 σ36 := jI38_fr ((congrFun (f38 38 (of_decide_eq_true rfl)) 0).trans (congrFun (f22 38 (of_decide_eq_true rfl)) 0)) ((congrFun (f38 38 (of_decide_eq_true rfl)) 1).trans (congrFun (f22 38 (of_decide_eq_true rfl)) 1)) ((f38 39 (of_decide_eq_true rfl)).trans (f22 39 (of_decide_eq_true rfl))) hI38
        have I53 : jI43 σ36 := jI43_fr ((congrFun (f38 43 (of_decide_eq_true rfl)) 8).trans (congrFun (f22 43 (of_decide_eq_true rfl)) 8)) hI43
        have I54 : jI47 σ36 := jI47_fr ((congrFun (f38 47 (of_decide_eq_true rfl)) 0).trans (congrFun (f22 47 (of_decide_eq_true rfl)) 0)) ((f38 48 (of_decide_eq_true rfl)).trans (f22 48 (of_decide_eq_true rfl))) ((f38 49 (of_decide_eq_true rfl)).trans (f22 49 (of_decide_eq_true rfl))) hI47
        have I55 : jI50 σ36 := jI50_fr ((f38 52 (of_decide_eq_true rfl)).trans (f22 52 (of_decide_eq_true rfl))) hI50
        have I56 : jI101 σ36 := jI101_fr (f39 4 (of_decide_eq_true rfl)) (f39 5 (of_decide_eq_true rfl)) (f38 56 (of_decide_eq_true rfl)) (f38 57 (of_decide_eq_true rfl)) (f38 58 (of_decide_eq_true rfl)) (f38 59 (of_decide_eq_true rfl)) I26
        have I57 : jI102 σ36 := jI102_fr (f39 6 (of_decide_eq_true rfl)) (f38 60 (of_decide_eq_true rfl)) (f38 61 (of_decide_eq_true rfl)) I27
        have I58 : jI103 σ36 := jI103_fr (f39 9 (of_decide_eq_true rfl)) I28
        have I59 : jI104 σ36 := jI104_fr (f39 10 (of_decide_eq_true rfl)) (f39 12 (of_decide_eq_true rfl)) (f39 13 (of_decide_eq_true rfl)) (f38 62 (of_decide_eq_true rfl)) (f38 67 (of_decide_eq_true rfl)) I29
        have I60 : jI105 σ36 := jI105_fr (f39 15 (of_decide_eq_true rfl)) (f38 65 (of_decide_eq_true rfl)) I30
        have I61 : jI106 σ36 := jI106_fr (f39 32 (of_decide_eq_true rfl)) (f38 70 (of_decide_eq_true rfl)) (f38 71 (of_decide_eq_true rfl)) (f38 72 (of_decide_eq_true rfl)) I31
        have I62 : jI107 σ36 := jI107_fr ((f39 12 (of_decide_eq_true rfl)).trans (congrFun (f22 55 (of_decide_eq_true rfl)) 12)) ((f39 47 (of_decide_eq_true rfl)).trans (congrFun (f22 55 (of_decide_eq_true rfl)) 47)) ((f38 80 (of_decide_eq_true rfl)).trans (f22 80 (of_decide_eq_true rfl))) hI107
        have I63 : jI109 σ36 := jI109_fr ((f39 50 (of_decide_eq_true rfl)).trans (congrFun (f22 55 (of_decide_eq_true rfl)) 50)) hI109
        have I64 : jI110 σ36 := jI110_fr ((f38 86 (of_decide_eq_true rfl)).trans (f22 86 (of_decide_eq_true rfl))) ((f38 87 (of_decide_eq_true rfl)).trans (f22 87 (of_decide_eq_true rfl))) hI110
        have I65 : jI111 σ36 := jI111_fr ((f38 79 (of_decide_eq_true rfl)).trans (f22 79 (of_decide_eq_true rfl))) hI111
        have p66 : jBook σ36 := jBook.fr ((f39 47 (of_decide_eq_true rfl)).trans (congrFun (f22 55 (of_decide_eq_true rfl)) 47)) ((f39 10 (of_decide_eq_true rfl)).trans (congrFun (f22 55 (of_decide_eq_true rfl)) 10)) ((f38 81 (of_decide_eq_true rfl)).trans (f22 81 (of_decide_eq_true rfl))) hs_jBook
        have z67 : (σ36 9 0).toInt = (σ 9 0).toInt := (congrArg Int32.toInt (show σ36 9 0 = (σ 9 0) from ((congrFun (f38 9 (of_decide_eq_true rfl)) 0).trans (congrFun (f22 9 (of_decide_eq_true rfl)) 0))))
        have z68 : (σ36 55 15).toInt = (σ 55 15).toInt := (congrArg Int32.toInt (show σ36 55 15 = (σ 55 15) from ((f39 15 (of_decide_eq_true rfl)).trans (congrFun (f22 55 (of_decide_eq_true rfl)) 15))))
        have z69 : (σ36 16 0).toInt = (σ 16 0).toInt := (congrArg Int32.toInt (show σ36 16 0 = (σ 16 0) from ((congrFun (f38 16 (of_decide_eq_true rfl)) 0).trans (congrFun (f22 16 (of_decide_eq_true rfl)) 0))))
        have z70 : (σ36 55 10).toInt = (σ 55 10).toInt := (congrArg Int32.toInt (show σ36 55 10 = (σ 55 10) from ((f39 10 (of_decide_eq_true rfl)).trans (congrFun (f22 55 (of_decide_eq_true rfl)) 10))))
        have z71 : (σ36 16 1).toInt = (σ 16 1).toInt := (congrArg Int32.toInt (show σ36 16 1 = (σ 16 1) from ((congrFun (f38 16 (of_decide_eq_true rfl)) 1).trans (congrFun (f22 16 (of_decide_eq_true rfl)) 1))))
        have z72 : (σ36 55 12).toInt = (σ 55 12).toInt := (congrArg Int32.toInt (show σ36 55 12 = (σ 55 12) from ((f39 12 (of_decide_eq_true rfl)).trans (congrFun (f22 55 (of_decide_eq_true rfl)) 12))))
        have z73 : (σ36 16 2).toInt = (σ 16 2).toInt := (congrArg Int32.toInt (show σ36 16 2 = (σ 16 2) from ((congrFun (f38 16 (of_decide_eq_true rfl)) 2).trans (congrFun (f22 16 (of_decide_eq_true rfl)) 2))))
        have z74 : (σ36 55 13).toInt = (σ 55 13).toInt := (congrArg Int32.toInt (show σ36 55 13 = (σ 55 13) from ((f39 13 (of_decide_eq_true rfl)).trans (congrFun (f22 55 (of_decide_eq_true rfl)) 13))))
        exact by exact ih x44 σ36 τ _ _ ls (by have h9 := tx44; omega) ⟨I45, I46, I47, I48, I49, I50, I51, I52, I53, I54, I55, I56, I57, I58, I59, I60, I61, I62, I63, I64, I65, I40, p41, p66, (by omega), (by omega), (by omega), (by omega), (show jTp (σ36 10) (σ36 63) (σ36 55 15).toInt by rw [show σ36 10 = σ 10 from ((f38 10 (of_decide_eq_true rfl)).trans (f22 10 (of_decide_eq_true rfl))), show σ36 63 = σ 63 from ((f38 63 (of_decide_eq_true rfl)).trans (f22 63 (of_decide_eq_true rfl)))]; exact hr0.le (by omega)), (show jSo (σ36 17) (σ36 62) (σ36 16 0).toInt by rw [show σ36 17 = σ 17 from ((f38 17 (of_decide_eq_true rfl)).trans (f22 17 (of_decide_eq_true rfl))), show σ36 62 = σ 62 from ((f38 62 (of_decide_eq_true rfl)).trans (f22 62 (of_decide_eq_true rfl))), show (σ36 16 0).toInt = (σ 16 0).toInt from by omega]; exact hr1)⟩ hP hS (lv_sub hl [0, 1, 2, 3] rfl)
set_option maxHeartbeats 4000000 in
set_option maxRecDepth 100000 in
theorem law_case_15 {p : Program} {e : Env} {s : State} {m : MethodId} {below : List Frame} {meth : Method} {c : Code} (l : Launch) {b L : Nat} {xs : Nat → Int32} {D : va_G} {cI cL : ClassId} {ad zz : Nat → Nat} (C0 : lw_At p s m meth c b L xs) (hJ : jD ad) (hA : ∀ q, jA ad q → s.heap.size ≤ q) (hK : jK D cI cL s) (hZ : jZ zz (fun q : Nat => s.heap.size ≤ q) s s.heap) {x0 : Int32} (hx0 : 0 ≤ x0.toInt) (hxL : x0.toInt + 6 ≤ (L : Int)) (hL : L ≤ 384) {σ : Nat → Nat → Int32} {τ : Nat → Nat → Int64} {H : Heap} {locs : List Loc} (hS : va_S (fun q : Nat => s.heap.size ≤ q) s.heap H locs) {ls : Array Slot} (hAll : jAll σ τ) (hP : jH D cI cL ad σ τ H) (hl : lv_has ls 4 [(3, .int x0), (2, .ref (ad 55)), (1, .ref (ad 0)), (0, .ref b)]) (ih : ∀ (x1 : Int32) (σ : Nat → Nat → Int32) (τ : Nat → Nat → Int64) (H : Heap) (locs : List Loc) (ls : Array Slot), x1.toInt = x0.toInt + 6 → jAll σ τ → jH D cI cL ad σ τ H → va_S (fun q : Nat => s.heap.size ≤ q) s.heap H locs → lv_has ls 4 [(3, .int x1), (2, .ref (ad 55)), (1, .ref (ad 0)), (0, .ref b)] → W p l e room_1 s m #[Value.ref b] below meth c H locs 90 348600 (lw_Z below #[Value.ref b] s) (F0 m 18 ls [])) : W p l e room_1 s m #[Value.ref b] below meth c H locs 90 348600 (lw_Z below #[Value.ref b] s) (F0 m 661 ls []) := by
  obtain ⟨hx, hb, hr, hml, hown, hts0, hX, hbl, hlocks, hgv⟩ := C0
  have hts : ∀ w ∈ wsL_law, w.before #[Value.ref b] s = true := fun w h => hts0 w (wsL_law_in w h)
  have hbA : ¬ (fun q : Nat => s.heap.size ≤ q) b := Nat.not_le.mpr hbl
  have hown : s.vm.findClass RL = some m.cls := hown
  obtain ⟨hI2, hI9, hI12, hI16, hI18, hI22, hI31, hI38, hI43, hI47, hI50, hI101, hI102, hI103, hI104, hI105, hI106, hI107, hI109, hI110, hI111, hI119, hs_jKept, hs_jBook, ht0, ht1, ht2, ht3, hr0, hr1⟩ := hAll
  have hL9 : (L : Int) ≤ 384 := by omega
  obtain ⟨i1, w2, w3⟩ : (0 ≤ (σ 9 0).toInt ∧ (σ 9 0).toInt ≤ 80) ∧ (∀ k : Nat, k < 80 → 0 ≤ (σ 10 k).toInt ∧ (σ 10 k).toInt ≤ 255) ∧ (∀ k : Nat, k < 8 → 0 ≤ (σ 11 k).toInt ∧ (σ 11 k).toInt ≤ 3) := id hI9
  obtain ⟨i4, i5, i6, w7⟩ : (1 ≤ (σ 16 0).toInt ∧ (σ 16 0).toInt ≤ 8) ∧ (1 ≤ (σ 16 1).toInt ∧ (σ 16 1).toInt ≤ 12) ∧ (0 ≤ (σ 16 2).toInt ∧ (σ 16 2).toInt ≤ 999) ∧ (∀ k : Nat, k < 8 → 0 ≤ (σ 17 k).toInt ∧ (σ 17 k).toInt ≤ 3) := id hI16
  obtain ⟨i8, i9, i10, w11, w12⟩ : (1 ≤ (σ 55 10).toInt ∧ (σ 55 10).toInt ≤ 8) ∧ (1 ≤ (σ 55 12).toInt ∧ (σ 55 12).toInt ≤ 12) ∧ (0 ≤ (σ 55 13).toInt ∧ (σ 55 13).toInt ≤ 999) ∧ (∀ k : Nat, k < 8 → 0 ≤ (σ 62 k).toInt ∧ (σ 62 k).toInt ≤ 3) ∧ (∀ k : Nat, k < 8 → 0 ≤ (σ 67 k).toInt ∧ (σ 67 k).toInt ≤ 3) := id hI104
  obtain ⟨i13, w14⟩ : (0 ≤ (σ 55 15).toInt ∧ (σ 55 15).toInt ≤ 80) ∧ (∀ k : Nat, k < 2 → (-1) ≤ (σ 65 k).toInt ∧ (σ 65 k).toInt ≤ 80) := id hI105
  refine lv_aload_n hx hb dL_law_661 rfl (lv_at hl 2 rfl) ?_
  refine lv_aload_n hx hb dL_law_662 rfl (lv_at hl 3 rfl) ?_
  refine lv_iload_n hx hb dL_law_663 rfl (lv_at hl 0 rfl) ?_
  refine lv_iconst (v := 1) hx hb dL_law_664 (of_decide_eq_true rfl) ?_
  have g15 := jrg (rfl : x0.toInt = x0.toInt)
  refine lv_iadd hx hb dL_law_665 ?_
  refine lv_topi (fun x16 ex16 => ?_)
  exact by
   have tx16 : x16.toInt = x0.toInt + 1 := (jadd ex16 rfl jz_1 (by omega) (by omega)).trans (by omega)
   refine va_sld hx hb hX hbl hbA hS (jin tx16 (by omega) (by omega)) dL_law_666 ?_
   have g17 := jrg (rfl : (xs x16.toNatClampNeg).toInt = (xs x16.toNatClampNeg).toInt)
   refine lv_aload_n hx hb dL_law_667 rfl (lv_at hl 3 rfl) ?_
   refine lv_iload_n hx hb dL_law_668 rfl (lv_at hl 0 rfl) ?_
   refine lv_iconst (v := 2) hx hb dL_law_669 (of_decide_eq_true rfl) ?_
   refine lv_iadd hx hb dL_law_670 ?_
   refine lv_topi (fun x18 ex18 => ?_)
   have tx18 : x18.toInt = x0.toInt + 2 := (jadd ex18 rfl jz_2 (by omega) (by omega)).trans (by omega)
   exact by
    refine va_sld hx hb hX hbl hbA hS (jin tx18 (by omega) (by omega)) dL_law_671 ?_
    have g19 := jrg (rfl : (xs x18.toNatClampNeg).toInt = (xs x18.toNatClampNeg).toInt)
    refine jcallV (As := [.int (xs x16.toNatClampNeg), .int (xs x18.toNatClampNeg)]) (rest := []) ⟨hx, hb, hml, hown, hts⟩ hK hP hA hS hZ (c_X11_fielded l D cI cL ad zz hJ σ τ (xs x16.toNatClampNeg) ((xs x16.toNatClampNeg).toInt) rfl (xs x18.toNatClampNeg) ((xs x18.toNatClampNeg).toInt) rfl hI2 hI16 hI22 hI31) cw_RL_77 (jc_0 cI cL ad σ τ) rfl ⟨Nat.le_of_ble_eq_true rfl, Nat.le_of_ble_eq_true rfl⟩ rfl rfl rfl hl.1 rfl (Nat.le_of_ble_eq_true rfl) dL_law_672 ⟨Nat.le_of_ble_eq_true rfl, Nat.le_of_ble_eq_true rfl⟩ (fun r21 σ20 τ20 H locs h20 hP hS => ?_)
    obtain ⟨rfl, f22, f23, I24, h20⟩ := h20
    refine lv_pop hx hb dL_law_675 rfl ?_
    refine lv_aload_n hx hb dL_law_676 rfl (lv_at hl 1 rfl) ?_
    refine lv_aload_n hx hb dL_law_677 rfl (lv_at hl 3 rfl) ?_
    refine lv_iload_n hx hb dL_law_678 rfl (lv_at hl 0 rfl) ?_
    refine lv_iconst (v := 1) hx hb dL_law_679 (of_decide_eq_true rfl) ?_
    refine lv_iadd hx hb dL_law_680 ?_
    refine jtopr ex16.symm ?_
    exact by
     refine va_sld hx hb hX hbl hbA hS (jin tx16 (by omega) (by omega)) dL_law_681 ?_
     refine lv_aload_n hx hb dL_law_682 rfl (lv_at hl 3 rfl) ?_
     refine lv_iload_n hx hb dL_law_683 rfl (lv_at hl 0 rfl) ?_
     refine lv_iconst (v := 2) hx hb dL_law_684 (of_decide_eq_true rfl) ?_
     refine lv_iadd hx hb dL_law_685 ?_
     refine jtopr ex18.symm ?_
     refine va_sld hx hb hX hbl hbA hS (jin tx18 (by omega) (by omega)) dL_law_686 ?_
     have I26 : jI101 σ20 := jI101_fr (congrFun (f22 55 (of_decide_eq_true rfl)) 4) (congrFun (f22 55 (of_decide_eq_true rfl)) 5) (f22 56 (of_decide_eq_true rfl)) (f22 57 (of_decide_eq_true rfl)) (f22 58 (of_decide_eq_true rfl)) (f22 59 (of_decide_eq_true rfl)) hI101
     have I27 : jI102 σ20 := jI102_fr (congrFun (f22 55 (of_decide_eq_true rfl)) 6) (f22 60 (of_decide_eq_true rfl)) (f22 61 (of_decide_eq_true rfl)) hI102
     exact by
      have I28 : jI103 σ20 := jI103_fr (congrFun (f22 55 (of_decide_eq_true rfl)) 9) hI103
      have I29 : jI104 σ20 := jI104_fr (congrFun (f22 55 (of_decide_eq_true rfl)) 10) (congrFun (f22 55 (of_decide_eq_true rfl)) 12) (congrFun (f22 55 (of_decide_eq_true rfl)) 13) (f22 62 (of_decide_eq_true rfl)) (f22 67 (of_decide_eq_true rfl)) hI104
      have I30 : jI105 σ20 := jI105_fr (congrFun (f22 55 (of_decide_eq_true rfl)) 15) (f22 65 (of_decide_eq_true rfl)) hI105
      have I31 : jI106 σ20 := jI106_fr (congrFun (f22 55 (of_decide_eq_true rfl)) 32) (f22 70 (of_decide_eq_true rfl)) (f22 71 (of_decide_eq_true rfl)) (f22 72 (of_decide_eq_true rfl)) hI106
      have I32 : jI119 σ20 := jI119_fr (f22 68 (of_decide_eq_true rfl)) hI119
      have p33 : jKept σ20 := jKept.fr (f22 75 (of_decide_eq_true rfl)) (f22 76 (of_decide_eq_true rfl)) (f22 77 (of_decide_eq_true rfl)) hs_jKept
      have z34 : (σ20 55 9).toInt = (σ 55 9).toInt := (congrArg Int32.toInt (show σ20 55 9 = (σ 55 9) from (congrFun (f22 55 (of_decide_eq_true rfl)) 9)))
      refine jcallV (As := [.int (xs x16.toNatClampNeg), .int (xs x18.toNatClampNeg)]) (rest := []) ⟨hx, hb, hml, hown, hts⟩ hK hP hA hS hZ (c_X12_fielded l D cI cL ad zz hJ σ20 τ (xs x16.toNatClampNeg) ((xs x16.toNatClampNeg).toInt) rfl (xs x18.toNatClampNeg) ((xs x18.toNatClampNeg).toInt) rfl I26 I27 I28 I29 I30 I31 I32 p33) cw_RL_80 (jc_55 cI cL ad σ20 τ) rfl ⟨Nat.le_of_ble_eq_true rfl, Nat.le_of_ble_eq_true rfl⟩ rfl rfl rfl hl.1 rfl (Nat.le_of_ble_eq_true rfl) dL_law_687 ⟨Nat.le_of_ble_eq_true rfl, Nat.le_of_ble_eq_true rfl⟩ (fun r36 σ35 τ35 H locs h35 hP hS => ?_)
      obtain ⟨rfl, f37, f38, I39, I40, p41, h35⟩ := h35
      obtain ⟨k43, h35⟩ := h35
      refine lv_pop hx hb dL_law_690 rfl ?_
      refine lv_goto (tgt := 1357) hx hb dL_law_691 (of_decide_eq_true rfl) ?_
      obtain ⟨x44, ex44⟩ : ∃ y : Int32, y = x0 + 6 := ⟨_, rfl⟩
      exact by
       have tx44 : x44.toInt = x0.toInt + 6 := (jadd ex44 rfl jz_6 (by omega) (by omega)).trans (by omega)
       refine lv_iinc (v := x44) (lv' := [(3, .int x44), (2, .ref (ad 55)), (1, .ref (ad 0)), (0, .ref b)]) hx hb dL_law_1357 hl (k := 0) rfl (by rw [ex44]; rfl) (of_decide_eq_true rfl) rfl (fun ls hl => ?_)
       refine lv_goto (tgt := 18) hx hb dL_law_1360 (of_decide_eq_true rfl) ?_
       have I45 : jI2 σ35 := jI2_fr ((congrFun (f37 2 (of_decide_eq_true rfl)) 0).trans (congrFun (f22 2 (of_decide_eq_true rfl)) 0)) ((congrFun (f37 2 (of_decide_eq_true rfl)) 1).trans (congrFun (f22 2 (of_decide_eq_true rfl)) 1)) ((congrFun (f37 2 (of_decide_eq_true rfl)) 2).trans (congrFun (f22 2 (of_decide_eq_true rfl)) 2)) ((congrFun (f37 2 (of_decide_eq_true rfl)) 3).trans (congrFun (f22 2 (of_decide_eq_true rfl)) 3)) ((f37 6 (of_decide_eq_true rfl)).trans (f22 6 (of_decide_eq_true rfl))) hI2
       have I46 : jI9 σ35 := jI9_fr ((congrFun (f37 9 (of_decide_eq_true rfl)) 0).trans (congrFun (f22 9 (of_decide_eq_true rfl)) 0)) ((f37 10 (of_decide_eq_true rfl)).trans (f22 10 (of_decide_eq_true rfl))) ((f37 11 (of_decide_eq_true rfl)).trans (f22 11 (of_decide_eq_true rfl))) hI9
       have I47 : jI12 σ35 := jI12_fr ((congrFun (f37 12 (of_decide_eq_true rfl)) 0).trans (congrFun (f22 12 (of_decide_eq_true rfl)) 0)) ((f37 13 (of_decide_eq_true rfl)).trans (f22 13 (of_decide_eq_true rfl))) hI12
       have I48 : jI16 σ35 := jI16_fr ((congrFun (f37 16 (of_decide_eq_true rfl)) 0).trans (congrFun (f22 16 (of_decide_eq_true rfl)) 0)) ((congrFun (f37 16 (of_decide_eq_true rfl)) 1).trans (congrFun (f22 16 (of_decide_eq_true rfl)) 1)) ((congrFun (f37 16 (of_decide_eq_true rfl)) 2).trans (congrFun (f22 16 (of_decide_eq_true rfl)) 2)) ((f37 17 (of_decide_eq_true rfl)).trans (f22 17 (of_decide_eq_true rfl))) hI16
       have I49 : jI18 σ35 := jI18_fr ((congrFun (f37 18 (of_decide_eq_true rfl)) 0).trans (congrFun (f22 18 (of_decide_eq_true rfl)) 0)) ((f37 19 (of_decide_eq_true rfl)).trans (f22 19 (of_decide_eq_true rfl))) hI18
       have I50 : jI22 σ35 := jI22_fr ((congrFun (f37 22 (of_decide_eq_true rfl)) 0).trans (congrFun (f22 22 (of_decide_eq_true rfl)) 0)) ((f37 23 (of_decide_eq_true rfl)).trans (f22 23 (of_decide_eq_true rfl))) hI22
       exact by
        have I51 : jI31 σ35 := jI31_fr (congrFun (f37 31 (of_decide_eq_true rfl)) 8) (f37 33 (of_decide_eq_true rfl)) (f37 36 (of_decide_eq_true rfl)) I24
        have I52 : jI38 σ35 := jI38_fr ((congrFun (f37 38 (of_decide_eq_true rfl)) 0).trans (congrFun (f22 38 (of_decide_eq_true rfl)) 0)) ((congrFun (f37 38 (of_decide_eq_true rfl)) 1).trans (congrFun (f22 38 (of_decide_eq_true rfl)) 1)) ((f37 39 (of_decide_eq_true rfl)).trans (f22 39 (of_decide_eq_true rfl))) hI38
        have I53 : jI43 σ35 := jI43_fr ((congrFun (f37 43 (of_decide_eq_true rfl)) 8).trans (congrFun (f22 43 (of_decide_eq_true rfl)) 8)) hI43
        have I54 : jI47 σ35 := jI47_fr ((congrFun (f37 47 (of_decide_eq_true rfl)) 0).trans (congrFun (f22 47 (of_decide_eq_true rfl)) 0)) ((f37 48 (of_decide_eq_true rfl)).trans (f22 48 (of_decide_eq_true rfl))) ((f37 49 (of_decide_eq_true rfl)).trans (f22 49 (of_decide_eq_true rfl))) hI47
        have I55 : jI50 σ35 := jI50_fr ((f37 52 (of_decide_eq_true rfl)).trans (f22 52 (of_decide_eq_true rfl))) hI50
        have I56 : jI101 σ35 := jI101_fr (f38 4 (of_decide_eq_true rfl)) (f38 5 (of_decide_eq_true rfl)) (f37 56 (of_decide_eq_true rfl)) (f37 57 (of_decide_eq_true rfl)) (f37 58 (of_decide_eq_true rfl)) (f37 59 (of_decide_eq_true rfl)) I26
        have I57 : jI102 σ35 := jI102_fr (f38 6 (of_decide_eq_true rfl)) (f37 60 (of_decide_eq_true rfl)) (f37 61 (of_decide_eq_true rfl)) I27
        have I58 : jI104 σ35 := jI104_fr (f38 10 (of_decide_eq_true rfl)) (f38 12 (of_decide_eq_true rfl)) (f38 13 (of_decide_eq_true rfl)) (f37 62 (of_decide_eq_true rfl)) (f37 67 (of_decide_eq_true rfl)) I29
        have I59 : jI105 σ35 := jI105_fr (f38 15 (of_decide_eq_true rfl)) (f37 65 (of_decide_eq_true rfl)) I30
        have I60 : jI106 σ35 := jI106_fr (f38 32 (of_decide_eq_true rfl)) (f37 70 (of_decide_eq_true rfl)) (f37 71 (of_decide_eq_true rfl)) (f37 72 (of_decide_eq_true rfl)) I31
        have I61 : jI107 σ35 := jI107_fr ((f38 12 (of_decide_eq_true rfl)).trans (congrFun (f22 55 (of_decide_eq_true rfl)) 12)) ((f38 47 (of_decide_eq_true rfl)).trans (congrFun (f22 55 (of_decide_eq_true rfl)) 47)) ((f37 80 (of_decide_eq_true rfl)).trans (f22 80 (of_decide_eq_true rfl))) hI107
        have I62 : jI109 σ35 := jI109_fr ((f38 50 (of_decide_eq_true rfl)).trans (congrFun (f22 55 (of_decide_eq_true rfl)) 50)) hI109
        have I63 : jI110 σ35 := jI110_fr ((f37 86 (of_decide_eq_true rfl)).trans (f22 86 (of_decide_eq_true rfl))) ((f37 87 (of_decide_eq_true rfl)).trans (f22 87 (of_decide_eq_true rfl))) hI110
        have I64 : jI111 σ35 := jI111_fr ((f37 79 (of_decide_eq_true rfl)).trans (f22 79 (of_decide_eq_true rfl))) hI111
        have p65 : jBook σ35 := jBook.fr ((f38 47 (of_decide_eq_true rfl)).trans (congrFun (f22 55 (of_decide_eq_true rfl)) 47)) ((f38 10 (of_decide_eq_true rfl)).trans (congrFun (f22 55 (of_decide_eq_true rfl)) 10)) ((f37 81 (of_decide_eq_true rfl)).trans (f22 81 (of_decide_eq_true rfl))) hs_jBook
        have z66 : (σ35 9 0).toInt = (σ 9 0).toInt := (congrArg Int32.toInt (show σ35 9 0 = (σ 9 0) from ((congrFun (f37 9 (of_decide_eq_true rfl)) 0).trans (congrFun (f22 9 (of_decide_eq_true rfl)) 0))))
        have z67 : (σ35 55 15).toInt = (σ 55 15).toInt := (congrArg Int32.toInt (show σ35 55 15 = (σ 55 15) from ((f38 15 (of_decide_eq_true rfl)).trans (congrFun (f22 55 (of_decide_eq_true rfl)) 15))))
        have z68 : (σ35 16 0).toInt = (σ 16 0).toInt := (congrArg Int32.toInt (show σ35 16 0 = (σ 16 0) from ((congrFun (f37 16 (of_decide_eq_true rfl)) 0).trans (congrFun (f22 16 (of_decide_eq_true rfl)) 0))))
        have z69 : (σ35 55 10).toInt = (σ 55 10).toInt := (congrArg Int32.toInt (show σ35 55 10 = (σ 55 10) from ((f38 10 (of_decide_eq_true rfl)).trans (congrFun (f22 55 (of_decide_eq_true rfl)) 10))))
        have z70 : (σ35 16 1).toInt = (σ 16 1).toInt := (congrArg Int32.toInt (show σ35 16 1 = (σ 16 1) from ((congrFun (f37 16 (of_decide_eq_true rfl)) 1).trans (congrFun (f22 16 (of_decide_eq_true rfl)) 1))))
        have z71 : (σ35 55 12).toInt = (σ 55 12).toInt := (congrArg Int32.toInt (show σ35 55 12 = (σ 55 12) from ((f38 12 (of_decide_eq_true rfl)).trans (congrFun (f22 55 (of_decide_eq_true rfl)) 12))))
        have z72 : (σ35 16 2).toInt = (σ 16 2).toInt := (congrArg Int32.toInt (show σ35 16 2 = (σ 16 2) from ((congrFun (f37 16 (of_decide_eq_true rfl)) 2).trans (congrFun (f22 16 (of_decide_eq_true rfl)) 2))))
        have z73 : (σ35 55 13).toInt = (σ 55 13).toInt := (congrArg Int32.toInt (show σ35 55 13 = (σ 55 13) from ((f38 13 (of_decide_eq_true rfl)).trans (congrFun (f22 55 (of_decide_eq_true rfl)) 13))))
        exact by exact ih x44 σ35 τ _ _ ls (by have h9 := tx44; omega) ⟨I45, I46, I47, I48, I49, I50, I51, I52, I53, I54, I55, I56, I57, I39, I58, I59, I60, I61, I62, I63, I64, I40, p41, p65, (by omega), (by omega), (by omega), (by omega), (show jTp (σ35 10) (σ35 63) (σ35 55 15).toInt by rw [show σ35 10 = σ 10 from ((f37 10 (of_decide_eq_true rfl)).trans (f22 10 (of_decide_eq_true rfl))), show σ35 63 = σ 63 from ((f37 63 (of_decide_eq_true rfl)).trans (f22 63 (of_decide_eq_true rfl)))]; exact hr0.le (by omega)), (show jSo (σ35 17) (σ35 62) (σ35 16 0).toInt by rw [show σ35 17 = σ 17 from ((f37 17 (of_decide_eq_true rfl)).trans (f22 17 (of_decide_eq_true rfl))), show σ35 62 = σ 62 from ((f37 62 (of_decide_eq_true rfl)).trans (f22 62 (of_decide_eq_true rfl))), show (σ35 16 0).toInt = (σ 16 0).toInt from by omega]; exact hr1)⟩ hP hS (lv_sub hl [0, 1, 2, 3] rfl)
set_option maxHeartbeats 4000000 in
set_option maxRecDepth 100000 in
theorem law_case_16 {p : Program} {e : Env} {s : State} {m : MethodId} {below : List Frame} {meth : Method} {c : Code} (l : Launch) {b L : Nat} {xs : Nat → Int32} {D : va_G} {cI cL : ClassId} {ad zz : Nat → Nat} (C0 : lw_At p s m meth c b L xs) (hJ : jD ad) (hA : ∀ q, jA ad q → s.heap.size ≤ q) (hK : jK D cI cL s) (hZ : jZ zz (fun q : Nat => s.heap.size ≤ q) s s.heap) {x0 : Int32} (hx0 : 0 ≤ x0.toInt) (hxL : x0.toInt + 6 ≤ (L : Int)) (hL : L ≤ 384) {σ : Nat → Nat → Int32} {τ : Nat → Nat → Int64} {H : Heap} {locs : List Loc} (hS : va_S (fun q : Nat => s.heap.size ≤ q) s.heap H locs) {ls : Array Slot} (hAll : jAll σ τ) (hP : jH D cI cL ad σ τ H) (hl : lv_has ls 4 [(3, .int x0), (2, .ref (ad 55)), (1, .ref (ad 0)), (0, .ref b)]) (ih : ∀ (x1 : Int32) (σ : Nat → Nat → Int32) (τ : Nat → Nat → Int64) (H : Heap) (locs : List Loc) (ls : Array Slot), x1.toInt = x0.toInt + 6 → jAll σ τ → jH D cI cL ad σ τ H → va_S (fun q : Nat => s.heap.size ≤ q) s.heap H locs → lv_has ls 4 [(3, .int x1), (2, .ref (ad 55)), (1, .ref (ad 0)), (0, .ref b)] → W p l e room_1 s m #[Value.ref b] below meth c H locs 90 348600 (lw_Z below #[Value.ref b] s) (F0 m 18 ls [])) : W p l e room_1 s m #[Value.ref b] below meth c H locs 90 348600 (lw_Z below #[Value.ref b] s) (F0 m 694 ls []) := by
  obtain ⟨hx, hb, hr, hml, hown, hts0, hX, hbl, hlocks, hgv⟩ := C0
  have hts : ∀ w ∈ wsL_law, w.before #[Value.ref b] s = true := fun w h => hts0 w (wsL_law_in w h)
  have hbA : ¬ (fun q : Nat => s.heap.size ≤ q) b := Nat.not_le.mpr hbl
  have hown : s.vm.findClass RL = some m.cls := hown
  obtain ⟨hI2, hI9, hI12, hI16, hI18, hI22, hI31, hI38, hI43, hI47, hI50, hI101, hI102, hI103, hI104, hI105, hI106, hI107, hI109, hI110, hI111, hI119, hs_jKept, hs_jBook, ht0, ht1, ht2, ht3, hr0, hr1⟩ := hAll
  have hL9 : (L : Int) ≤ 384 := by omega
  obtain ⟨i1, w2, w3⟩ : (0 ≤ (σ 9 0).toInt ∧ (σ 9 0).toInt ≤ 80) ∧ (∀ k : Nat, k < 80 → 0 ≤ (σ 10 k).toInt ∧ (σ 10 k).toInt ≤ 255) ∧ (∀ k : Nat, k < 8 → 0 ≤ (σ 11 k).toInt ∧ (σ 11 k).toInt ≤ 3) := id hI9
  obtain ⟨i4, i5, i6, w7⟩ : (1 ≤ (σ 16 0).toInt ∧ (σ 16 0).toInt ≤ 8) ∧ (1 ≤ (σ 16 1).toInt ∧ (σ 16 1).toInt ≤ 12) ∧ (0 ≤ (σ 16 2).toInt ∧ (σ 16 2).toInt ≤ 999) ∧ (∀ k : Nat, k < 8 → 0 ≤ (σ 17 k).toInt ∧ (σ 17 k).toInt ≤ 3) := id hI16
  obtain ⟨i8, i9, i10, w11, w12⟩ : (1 ≤ (σ 55 10).toInt ∧ (σ 55 10).toInt ≤ 8) ∧ (1 ≤ (σ 55 12).toInt ∧ (σ 55 12).toInt ≤ 12) ∧ (0 ≤ (σ 55 13).toInt ∧ (σ 55 13).toInt ≤ 999) ∧ (∀ k : Nat, k < 8 → 0 ≤ (σ 62 k).toInt ∧ (σ 62 k).toInt ≤ 3) ∧ (∀ k : Nat, k < 8 → 0 ≤ (σ 67 k).toInt ∧ (σ 67 k).toInt ≤ 3) := id hI104
  obtain ⟨i13, w14⟩ : (0 ≤ (σ 55 15).toInt ∧ (σ 55 15).toInt ≤ 80) ∧ (∀ k : Nat, k < 2 → (-1) ≤ (σ 65 k).toInt ∧ (σ 65 k).toInt ≤ 80) := id hI105
  refine lv_aload_n hx hb dL_law_694 rfl (lv_at hl 2 rfl) ?_
  refine lv_aload_n hx hb dL_law_695 rfl (lv_at hl 3 rfl) ?_
  refine lv_iload_n hx hb dL_law_696 rfl (lv_at hl 0 rfl) ?_
  refine lv_iconst (v := 1) hx hb dL_law_697 (of_decide_eq_true rfl) ?_
  have g15 := jrg (rfl : x0.toInt = x0.toInt)
  refine lv_iadd hx hb dL_law_698 ?_
  refine lv_topi (fun x16 ex16 => ?_)
  exact by
   have tx16 : x16.toInt = x0.toInt + 1 := (jadd ex16 rfl jz_1 (by omega) (by omega)).trans (by omega)
   refine va_sld hx hb hX hbl hbA hS (jin tx16 (by omega) (by omega)) dL_law_699 ?_
   have g17 := jrg (rfl : (xs x16.toNatClampNeg).toInt = (xs x16.toNatClampNeg).toInt)
   refine jcallV (As := [.int (xs x16.toNatClampNeg)]) (rest := []) ⟨hx, hb, hml, hown, hts⟩ hK hP hA hS hZ (c_X11_kept l D cI cL ad zz hJ σ τ (xs x16.toNatClampNeg) ((xs x16.toNatClampNeg).toInt) rfl hI2 hI16 hI22 hI31) cw_RL_81 (jc_0 cI cL ad σ τ) rfl ⟨Nat.le_of_ble_eq_true rfl, Nat.le_of_ble_eq_true rfl⟩ rfl rfl rfl hl.1 rfl (Nat.le_of_ble_eq_true rfl) dL_law_700 ⟨Nat.le_of_ble_eq_true rfl, Nat.le_of_ble_eq_true rfl⟩ (fun r19 σ18 τ18 H locs h18 hP hS => ?_)
   obtain ⟨rfl, f20, f21, I22, h18⟩ := h18
   refine lv_pop hx hb dL_law_703 rfl ?_
   refine lv_aload_n hx hb dL_law_704 rfl (lv_at hl 1 rfl) ?_
   refine lv_aload_n hx hb dL_law_705 rfl (lv_at hl 3 rfl) ?_
   refine lv_iload_n hx hb dL_law_706 rfl (lv_at hl 0 rfl) ?_
   exact by
    refine lv_iconst (v := 1) hx hb dL_law_707 (of_decide_eq_true rfl) ?_
    refine lv_iadd hx hb dL_law_708 ?_
    refine jtopr ex16.symm ?_
    refine va_sld hx hb hX hbl hbA hS (jin tx16 (by omega) (by omega)) dL_law_709 ?_
    have I24 : jI101 σ18 := jI101_fr (congrFun (f20 55 (of_decide_eq_true rfl)) 4) (congrFun (f20 55 (of_decide_eq_true rfl)) 5) (f20 56 (of_decide_eq_true rfl)) (f20 57 (of_decide_eq_true rfl)) (f20 58 (of_decide_eq_true rfl)) (f20 59 (of_decide_eq_true rfl)) hI101
    have I25 : jI102 σ18 := jI102_fr (congrFun (f20 55 (of_decide_eq_true rfl)) 6) (f20 60 (of_decide_eq_true rfl)) (f20 61 (of_decide_eq_true rfl)) hI102
    have I26 : jI103 σ18 := jI103_fr (congrFun (f20 55 (of_decide_eq_true rfl)) 9) hI103
    have I27 : jI104 σ18 := jI104_fr (congrFun (f20 55 (of_decide_eq_true rfl)) 10) (congrFun (f20 55 (of_decide_eq_true rfl)) 12) (congrFun (f20 55 (of_decide_eq_true rfl)) 13) (f20 62 (of_decide_eq_true rfl)) (f20 67 (of_decide_eq_true rfl)) hI104
    have I28 : jI105 σ18 := jI105_fr (congrFun (f20 55 (of_decide_eq_true rfl)) 15) (f20 65 (of_decide_eq_true rfl)) hI105
    exact by
     have I29 : jI106 σ18 := jI106_fr (congrFun (f20 55 (of_decide_eq_true rfl)) 32) (f20 70 (of_decide_eq_true rfl)) (f20 71 (of_decide_eq_true rfl)) (f20 72 (of_decide_eq_true rfl)) hI106
     have I30 : jI119 σ18 := jI119_fr (f20 68 (of_decide_eq_true rfl)) hI119
     have p31 : jKept σ18 := jKept.fr (f20 75 (of_decide_eq_true rfl)) (f20 76 (of_decide_eq_true rfl)) (f20 77 (of_decide_eq_true rfl)) hs_jKept
     refine jcallV (As := [.int (xs x16.toNatClampNeg)]) (rest := []) ⟨hx, hb, hml, hown, hts⟩ hK hP hA hS hZ (c_X12_kept l D cI cL ad zz hJ σ18 τ (xs x16.toNatClampNeg) ((xs x16.toNatClampNeg).toInt) rfl I24 I25 I26 I27 I28 I29 I30 p31) cw_RL_84 (jc_55 cI cL ad σ18 τ) rfl ⟨Nat.le_of_ble_eq_true rfl, Nat.le_of_ble_eq_true rfl⟩ rfl rfl rfl hl.1 rfl (Nat.le_of_ble_eq_true rfl) dL_law_710 ⟨Nat.le_of_ble_eq_true rfl, Nat.le_of_ble_eq_true rfl⟩ (fun r33 σ32 τ32 H locs h32 hP hS => ?_)
     obtain ⟨rfl, f34, f35, I36, p37, h32⟩ := h32
     refine lv_pop hx hb dL_law_713 rfl ?_
     refine lv_goto (tgt := 1357) hx hb dL_law_714 (of_decide_eq_true rfl) ?_
     obtain ⟨x39, ex39⟩ : ∃ y : Int32, y = x0 + 6 := ⟨_, rfl⟩
     have tx39 : x39.toInt = x0.toInt + 6 := (jadd ex39 rfl jz_6 (by omega) (by omega)).trans (by omega)
     exact by
      refine lv_iinc (v := x39) (lv' := [(3, .int x39), (2, .ref (ad 55)), (1, .ref (ad 0)), (0, .ref b)]) hx hb dL_law_1357 hl (k := 0) rfl (by rw [ex39]; rfl) (of_decide_eq_true rfl) rfl (fun ls hl => ?_)
      refine lv_goto (tgt := 18) hx hb dL_law_1360 (of_decide_eq_true rfl) ?_
      have I40 : jI2 σ32 := jI2_fr ((congrFun (f34 2 (of_decide_eq_true rfl)) 0).trans (congrFun (f20 2 (of_decide_eq_true rfl)) 0)) ((congrFun (f34 2 (of_decide_eq_true rfl)) 1).trans (congrFun (f20 2 (of_decide_eq_true rfl)) 1)) ((congrFun (f34 2 (of_decide_eq_true rfl)) 2).trans (congrFun (f20 2 (of_decide_eq_true rfl)) 2)) ((congrFun (f34 2 (of_decide_eq_true rfl)) 3).trans (congrFun (f20 2 (of_decide_eq_true rfl)) 3)) ((f34 6 (of_decide_eq_true rfl)).trans (f20 6 (of_decide_eq_true rfl))) hI2
      have I41 : jI9 σ32 := jI9_fr ((congrFun (f34 9 (of_decide_eq_true rfl)) 0).trans (congrFun (f20 9 (of_decide_eq_true rfl)) 0)) ((f34 10 (of_decide_eq_true rfl)).trans (f20 10 (of_decide_eq_true rfl))) ((f34 11 (of_decide_eq_true rfl)).trans (f20 11 (of_decide_eq_true rfl))) hI9
      have I42 : jI12 σ32 := jI12_fr ((congrFun (f34 12 (of_decide_eq_true rfl)) 0).trans (congrFun (f20 12 (of_decide_eq_true rfl)) 0)) ((f34 13 (of_decide_eq_true rfl)).trans (f20 13 (of_decide_eq_true rfl))) hI12
      have I43 : jI16 σ32 := jI16_fr ((congrFun (f34 16 (of_decide_eq_true rfl)) 0).trans (congrFun (f20 16 (of_decide_eq_true rfl)) 0)) ((congrFun (f34 16 (of_decide_eq_true rfl)) 1).trans (congrFun (f20 16 (of_decide_eq_true rfl)) 1)) ((congrFun (f34 16 (of_decide_eq_true rfl)) 2).trans (congrFun (f20 16 (of_decide_eq_true rfl)) 2)) ((f34 17 (of_decide_eq_true rfl)).trans (f20 17 (of_decide_eq_true rfl))) hI16
      have I44 : jI18 σ32 := jI18_fr ((congrFun (f34 18 (of_decide_eq_true rfl)) 0).trans (congrFun (f20 18 (of_decide_eq_true rfl)) 0)) ((f34 19 (of_decide_eq_true rfl)).trans (f20 19 (of_decide_eq_true rfl))) hI18
      have I45 : jI22 σ32 := jI22_fr ((congrFun (f34 22 (of_decide_eq_true rfl)) 0).trans (congrFun (f20 22 (of_decide_eq_true rfl)) 0)) ((f34 23 (of_decide_eq_true rfl)).trans (f20 23 (of_decide_eq_true rfl))) hI22
      have I46 : jI31 σ32 := jI31_fr (congrFun (f34 31 (of_decide_eq_true rfl)) 8) (f34 33 (of_decide_eq_true rfl)) (f34 36 (of_decide_eq_true rfl)) I22
      have I47 : jI38 σ32 := jI38_fr ((congrFun (f34 38 (of_decide_eq_true rfl)) 0).trans (congrFun (f20 38 (of_decide_eq_true rfl)) 0)) ((congrFun (f34 38 (of_decide_eq_true rfl)) 1).trans (congrFun (f20 38 (of_decide_eq_true rfl)) 1)) ((f34 39 (of_decide_eq_true rfl)).trans (f20 39 (of_decide_eq_true rfl))) hI38
      have I48 : jI43 σ32 := jI43_fr ((congrFun (f34 43 (of_decide_eq_true rfl)) 8).trans (congrFun (f20 43 (of_decide_eq_true rfl)) 8)) hI43
      have I49 : jI47 σ32 := jI47_fr ((congrFun (f34 47 (of_decide_eq_true rfl)) 0).trans (congrFun (f20 47 (of_decide_eq_true rfl)) 0)) ((f34 48 (of_decide_eq_true rfl)).trans (f20 48 (of_decide_eq_true rfl))) ((f34 49 (of_decide_eq_true rfl)).trans (f20 49 (of_decide_eq_true rfl))) hI47
      have I50 : jI50 σ32 := jI50_fr ((f34 52 (of_decide_eq_true rfl)).trans (f20 52 (of_decide_eq_true rfl))) hI50
      have I51 : jI101 σ32 := jI101_fr (f35 4 (of_decide_eq_true rfl)) (f35 5 (of_decide_eq_true rfl)) (f34 56 (of_decide_eq_true rfl)) (f34 57 (of_decide_eq_true rfl)) (f34 58 (of_decide_eq_true rfl)) (f34 59 (of_decide_eq_true rfl)) I24
      have I52 : jI102 σ32 := jI102_fr (f35 6 (of_decide_eq_true rfl)) (f34 60 (of_decide_eq_true rfl)) (f34 61 (of_decide_eq_true rfl)) I25
      have I53 : jI103 σ32 := jI103_fr (f35 9 (of_decide_eq_true rfl)) I26
      have I54 : jI104 σ32 := jI104_fr (f35 10 (of_decide_eq_true rfl)) (f35 12 (of_decide_eq_true rfl)) (f35 13 (of_decide_eq_true rfl)) (f34 62 (of_decide_eq_true rfl)) (f34 67 (of_decide_eq_true rfl)) I27
      have I55 : jI105 σ32 := jI105_fr (f35 15 (of_decide_eq_true rfl)) (f34 65 (of_decide_eq_true rfl)) I28
      have I56 : jI106 σ32 := jI106_fr (f35 32 (of_decide_eq_true rfl)) (f34 70 (of_decide_eq_true rfl)) (f34 71 (of_decide_eq_true rfl)) (f34 72 (of_decide_eq_true rfl)) I29
      have I57 : jI107 σ32 := jI107_fr ((f35 12 (of_decide_eq_true rfl)).trans (congrFun (f20 55 (of_decide_eq_true rfl)) 12)) ((f35 47 (of_decide_eq_true rfl)).trans (congrFun (f20 55 (of_decide_eq_true rfl)) 47)) ((f34 80 (of_decide_eq_true rfl)).trans (f20 80 (of_decide_eq_true rfl))) hI107
      have I58 : jI109 σ32 := jI109_fr ((f35 50 (of_decide_eq_true rfl)).trans (congrFun (f20 55 (of_decide_eq_true rfl)) 50)) hI109
      have I59 : jI110 σ32 := jI110_fr ((f34 86 (of_decide_eq_true rfl)).trans (f20 86 (of_decide_eq_true rfl))) ((f34 87 (of_decide_eq_true rfl)).trans (f20 87 (of_decide_eq_true rfl))) hI110
      have I60 : jI111 σ32 := jI111_fr ((f34 79 (of_decide_eq_true rfl)).trans (f20 79 (of_decide_eq_true rfl))) hI111
      have p61 : jBook σ32 := jBook.fr ((f35 47 (of_decide_eq_true rfl)).trans (congrFun (f20 55 (of_decide_eq_true rfl)) 47)) ((f35 10 (of_decide_eq_true rfl)).trans (congrFun (f20 55 (of_decide_eq_true rfl)) 10)) ((f34 81 (of_decide_eq_true rfl)).trans (f20 81 (of_decide_eq_true rfl))) hs_jBook
      have z62 : (σ32 9 0).toInt = (σ 9 0).toInt := (congrArg Int32.toInt (show σ32 9 0 = (σ 9 0) from ((congrFun (f34 9 (of_decide_eq_true rfl)) 0).trans (congrFun (f20 9 (of_decide_eq_true rfl)) 0))))
      have z63 : (σ32 55 15).toInt = (σ 55 15).toInt := (congrArg Int32.toInt (show σ32 55 15 = (σ 55 15) from ((f35 15 (of_decide_eq_true rfl)).trans (congrFun (f20 55 (of_decide_eq_true rfl)) 15))))
      have z64 : (σ32 16 0).toInt = (σ 16 0).toInt := (congrArg Int32.toInt (show σ32 16 0 = (σ 16 0) from ((congrFun (f34 16 (of_decide_eq_true rfl)) 0).trans (congrFun (f20 16 (of_decide_eq_true rfl)) 0))))
      have z65 : (σ32 55 10).toInt = (σ 55 10).toInt := (congrArg Int32.toInt (show σ32 55 10 = (σ 55 10) from ((f35 10 (of_decide_eq_true rfl)).trans (congrFun (f20 55 (of_decide_eq_true rfl)) 10))))
      have z66 : (σ32 16 1).toInt = (σ 16 1).toInt := (congrArg Int32.toInt (show σ32 16 1 = (σ 16 1) from ((congrFun (f34 16 (of_decide_eq_true rfl)) 1).trans (congrFun (f20 16 (of_decide_eq_true rfl)) 1))))
      have z67 : (σ32 55 12).toInt = (σ 55 12).toInt := (congrArg Int32.toInt (show σ32 55 12 = (σ 55 12) from ((f35 12 (of_decide_eq_true rfl)).trans (congrFun (f20 55 (of_decide_eq_true rfl)) 12))))
      have z68 : (σ32 16 2).toInt = (σ 16 2).toInt := (congrArg Int32.toInt (show σ32 16 2 = (σ 16 2) from ((congrFun (f34 16 (of_decide_eq_true rfl)) 2).trans (congrFun (f20 16 (of_decide_eq_true rfl)) 2))))
      have z69 : (σ32 55 13).toInt = (σ 55 13).toInt := (congrArg Int32.toInt (show σ32 55 13 = (σ 55 13) from ((f35 13 (of_decide_eq_true rfl)).trans (congrFun (f20 55 (of_decide_eq_true rfl)) 13))))
      exact by exact ih x39 σ32 τ _ _ ls (by have h9 := tx39; omega) ⟨I40, I41, I42, I43, I44, I45, I46, I47, I48, I49, I50, I51, I52, I53, I54, I55, I56, I57, I58, I59, I60, I36, p37, p61, (by omega), (by omega), (by omega), (by omega), (show jTp (σ32 10) (σ32 63) (σ32 55 15).toInt by rw [show σ32 10 = σ 10 from ((f34 10 (of_decide_eq_true rfl)).trans (f20 10 (of_decide_eq_true rfl))), show σ32 63 = σ 63 from ((f34 63 (of_decide_eq_true rfl)).trans (f20 63 (of_decide_eq_true rfl)))]; exact hr0.le (by omega)), (show jSo (σ32 17) (σ32 62) (σ32 16 0).toInt by rw [show σ32 17 = σ 17 from ((f34 17 (of_decide_eq_true rfl)).trans (f20 17 (of_decide_eq_true rfl))), show σ32 62 = σ 62 from ((f34 62 (of_decide_eq_true rfl)).trans (f20 62 (of_decide_eq_true rfl))), show (σ32 16 0).toInt = (σ 16 0).toInt from by omega]; exact hr1)⟩ hP hS (lv_sub hl [0, 1, 2, 3] rfl)
set_option maxHeartbeats 4000000 in
set_option maxRecDepth 100000 in
theorem law_case_17 {p : Program} {e : Env} {s : State} {m : MethodId} {below : List Frame} {meth : Method} {c : Code} (l : Launch) {b L : Nat} {xs : Nat → Int32} {D : va_G} {cI cL : ClassId} {ad zz : Nat → Nat} (C0 : lw_At p s m meth c b L xs) (hJ : jD ad) (hA : ∀ q, jA ad q → s.heap.size ≤ q) (hK : jK D cI cL s) (hZ : jZ zz (fun q : Nat => s.heap.size ≤ q) s s.heap) {x0 : Int32} (hx0 : 0 ≤ x0.toInt) (hxL : x0.toInt + 6 ≤ (L : Int)) (hL : L ≤ 384) {σ : Nat → Nat → Int32} {τ : Nat → Nat → Int64} {H : Heap} {locs : List Loc} (hS : va_S (fun q : Nat => s.heap.size ≤ q) s.heap H locs) {ls : Array Slot} (hAll : jAll σ τ) (hP : jH D cI cL ad σ τ H) (hl : lv_has ls 4 [(3, .int x0), (2, .ref (ad 55)), (1, .ref (ad 0)), (0, .ref b)]) (ih : ∀ (x1 : Int32) (σ : Nat → Nat → Int32) (τ : Nat → Nat → Int64) (H : Heap) (locs : List Loc) (ls : Array Slot), x1.toInt = x0.toInt + 6 → jAll σ τ → jH D cI cL ad σ τ H → va_S (fun q : Nat => s.heap.size ≤ q) s.heap H locs → lv_has ls 4 [(3, .int x1), (2, .ref (ad 55)), (1, .ref (ad 0)), (0, .ref b)] → W p l e room_1 s m #[Value.ref b] below meth c H locs 90 348600 (lw_Z below #[Value.ref b] s) (F0 m 18 ls [])) : W p l e room_1 s m #[Value.ref b] below meth c H locs 90 348600 (lw_Z below #[Value.ref b] s) (F0 m 717 ls []) := by
  obtain ⟨hx, hb, hr, hml, hown, hts0, hX, hbl, hlocks, hgv⟩ := C0
  have hts : ∀ w ∈ wsL_law, w.before #[Value.ref b] s = true := fun w h => hts0 w (wsL_law_in w h)
  have hbA : ¬ (fun q : Nat => s.heap.size ≤ q) b := Nat.not_le.mpr hbl
  have hown : s.vm.findClass RL = some m.cls := hown
  obtain ⟨hI2, hI9, hI12, hI16, hI18, hI22, hI31, hI38, hI43, hI47, hI50, hI101, hI102, hI103, hI104, hI105, hI106, hI107, hI109, hI110, hI111, hI119, hs_jKept, hs_jBook, ht0, ht1, ht2, ht3, hr0, hr1⟩ := hAll
  have hL9 : (L : Int) ≤ 384 := by omega
  obtain ⟨i1, w2, w3⟩ : (0 ≤ (σ 9 0).toInt ∧ (σ 9 0).toInt ≤ 80) ∧ (∀ k : Nat, k < 80 → 0 ≤ (σ 10 k).toInt ∧ (σ 10 k).toInt ≤ 255) ∧ (∀ k : Nat, k < 8 → 0 ≤ (σ 11 k).toInt ∧ (σ 11 k).toInt ≤ 3) := id hI9
  obtain ⟨i4, i5, i6, w7⟩ : (1 ≤ (σ 16 0).toInt ∧ (σ 16 0).toInt ≤ 8) ∧ (1 ≤ (σ 16 1).toInt ∧ (σ 16 1).toInt ≤ 12) ∧ (0 ≤ (σ 16 2).toInt ∧ (σ 16 2).toInt ≤ 999) ∧ (∀ k : Nat, k < 8 → 0 ≤ (σ 17 k).toInt ∧ (σ 17 k).toInt ≤ 3) := id hI16
  obtain ⟨i8, i9, i10, w11, w12⟩ : (1 ≤ (σ 55 10).toInt ∧ (σ 55 10).toInt ≤ 8) ∧ (1 ≤ (σ 55 12).toInt ∧ (σ 55 12).toInt ≤ 12) ∧ (0 ≤ (σ 55 13).toInt ∧ (σ 55 13).toInt ≤ 999) ∧ (∀ k : Nat, k < 8 → 0 ≤ (σ 62 k).toInt ∧ (σ 62 k).toInt ≤ 3) ∧ (∀ k : Nat, k < 8 → 0 ≤ (σ 67 k).toInt ∧ (σ 67 k).toInt ≤ 3) := id hI104
  obtain ⟨i13, w14⟩ : (0 ≤ (σ 55 15).toInt ∧ (σ 55 15).toInt ≤ 80) ∧ (∀ k : Nat, k < 2 → (-1) ≤ (σ 65 k).toInt ∧ (σ 65 k).toInt ≤ 80) := id hI105
  refine lv_aload_n hx hb dL_law_717 rfl (lv_at hl 2 rfl) ?_
  refine lv_aload_n hx hb dL_law_718 rfl (lv_at hl 3 rfl) ?_
  refine lv_iload_n hx hb dL_law_719 rfl (lv_at hl 0 rfl) ?_
  refine lv_iconst (v := 1) hx hb dL_law_720 (of_decide_eq_true rfl) ?_
  have g15 := jrg (rfl : x0.toInt = x0.toInt)
  refine lv_iadd hx hb dL_law_721 ?_
  refine lv_topi (fun x16 ex16 => ?_)
  exact by
   have tx16 : x16.toInt = x0.toInt + 1 := (jadd ex16 rfl jz_1 (by omega) (by omega)).trans (by omega)
   refine va_sld hx hb hX hbl hbA hS (jin tx16 (by omega) (by omega)) dL_law_722 ?_
   have g17 := jrg (rfl : (xs x16.toNatClampNeg).toInt = (xs x16.toNatClampNeg).toInt)
   refine jcallV (As := [.int (xs x16.toNatClampNeg)]) (rest := []) ⟨hx, hb, hml, hown, hts⟩ hK hP hA hS hZ (c_X11_theirs l D cI cL ad zz hJ σ τ (xs x16.toNatClampNeg) ((xs x16.toNatClampNeg).toInt) rfl hI2 hI16 hI22 hI31) cw_RL_85 (jc_0 cI cL ad σ τ) rfl ⟨Nat.le_of_ble_eq_true rfl, Nat.le_of_ble_eq_true rfl⟩ rfl rfl rfl hl.1 rfl (Nat.le_of_ble_eq_true rfl) dL_law_723 ⟨Nat.le_of_ble_eq_true rfl, Nat.le_of_ble_eq_true rfl⟩ (fun r19 σ18 τ18 H locs h18 hP hS => ?_)
   obtain ⟨rfl, f20, f21, I22, h18⟩ := h18
   refine lv_pop hx hb dL_law_726 rfl ?_
   refine lv_aload_n hx hb dL_law_727 rfl (lv_at hl 1 rfl) ?_
   refine lv_aload_n hx hb dL_law_728 rfl (lv_at hl 3 rfl) ?_
   refine lv_iload_n hx hb dL_law_729 rfl (lv_at hl 0 rfl) ?_
   exact by
    refine lv_iconst (v := 1) hx hb dL_law_730 (of_decide_eq_true rfl) ?_
    refine lv_iadd hx hb dL_law_731 ?_
    refine jtopr ex16.symm ?_
    refine va_sld hx hb hX hbl hbA hS (jin tx16 (by omega) (by omega)) dL_law_732 ?_
    have I24 : jI101 σ18 := jI101_fr (congrFun (f20 55 (of_decide_eq_true rfl)) 4) (congrFun (f20 55 (of_decide_eq_true rfl)) 5) (f20 56 (of_decide_eq_true rfl)) (f20 57 (of_decide_eq_true rfl)) (f20 58 (of_decide_eq_true rfl)) (f20 59 (of_decide_eq_true rfl)) hI101
    have I25 : jI102 σ18 := jI102_fr (congrFun (f20 55 (of_decide_eq_true rfl)) 6) (f20 60 (of_decide_eq_true rfl)) (f20 61 (of_decide_eq_true rfl)) hI102
    have I26 : jI103 σ18 := jI103_fr (congrFun (f20 55 (of_decide_eq_true rfl)) 9) hI103
    have I27 : jI104 σ18 := jI104_fr (congrFun (f20 55 (of_decide_eq_true rfl)) 10) (congrFun (f20 55 (of_decide_eq_true rfl)) 12) (congrFun (f20 55 (of_decide_eq_true rfl)) 13) (f20 62 (of_decide_eq_true rfl)) (f20 67 (of_decide_eq_true rfl)) hI104
    have I28 : jI105 σ18 := jI105_fr (congrFun (f20 55 (of_decide_eq_true rfl)) 15) (f20 65 (of_decide_eq_true rfl)) hI105
    exact by
     have I29 : jI106 σ18 := jI106_fr (congrFun (f20 55 (of_decide_eq_true rfl)) 32) (f20 70 (of_decide_eq_true rfl)) (f20 71 (of_decide_eq_true rfl)) (f20 72 (of_decide_eq_true rfl)) hI106
     have I30 : jI119 σ18 := jI119_fr (f20 68 (of_decide_eq_true rfl)) hI119
     have I31 : jI111 σ18 := jI111_fr (f20 79 (of_decide_eq_true rfl)) hI111
     have p32 : jKept σ18 := jKept.fr (f20 75 (of_decide_eq_true rfl)) (f20 76 (of_decide_eq_true rfl)) (f20 77 (of_decide_eq_true rfl)) hs_jKept
     refine jcallV (As := [.int (xs x16.toNatClampNeg)]) (rest := []) ⟨hx, hb, hml, hown, hts⟩ hK hP hA hS hZ (c_X12_theirs l D cI cL ad zz hJ σ18 τ (xs x16.toNatClampNeg) ((xs x16.toNatClampNeg).toInt) rfl I24 I25 I26 I27 I28 I29 I30 I31 p32) cw_RL_88 (jc_55 cI cL ad σ18 τ) rfl ⟨Nat.le_of_ble_eq_true rfl, Nat.le_of_ble_eq_true rfl⟩ rfl rfl rfl hl.1 rfl (Nat.le_of_ble_eq_true rfl) dL_law_733 ⟨Nat.le_of_ble_eq_true rfl, Nat.le_of_ble_eq_true rfl⟩ (fun r34 σ33 τ33 H locs h33 hP hS => ?_)
     obtain ⟨rfl, f35, f36, I37, I38, I39, p40, w41, h33⟩ := h33
     obtain ⟨i43, i44, i45, w46, w47⟩ : (1 ≤ (σ33 55 10).toInt ∧ (σ33 55 10).toInt ≤ 8) ∧ (1 ≤ (σ33 55 12).toInt ∧ (σ33 55 12).toInt ≤ 12) ∧ (0 ≤ (σ33 55 13).toInt ∧ (σ33 55 13).toInt ≤ 999) ∧ (∀ k : Nat, k < 8 → 0 ≤ (σ33 62 k).toInt ∧ (σ33 62 k).toInt ≤ 3) ∧ (∀ k : Nat, k < 8 → 0 ≤ (σ33 67 k).toInt ∧ (σ33 67 k).toInt ≤ 3) := id I37
     have z48 : (σ33 55 10).toInt = (σ 55 10).toInt := (congrArg Int32.toInt (show σ33 55 10 = (σ 55 10) from ((f36 10 (of_decide_eq_true rfl)).trans (congrFun (f20 55 (of_decide_eq_true rfl)) 10))))
     have z49 : (σ33 55 12).toInt = (σ 55 12).toInt := (congrArg Int32.toInt (show σ33 55 12 = (σ 55 12) from ((f36 12 (of_decide_eq_true rfl)).trans (congrFun (f20 55 (of_decide_eq_true rfl)) 12))))
     have z50 : (σ33 55 13).toInt = (σ 55 13).toInt := (congrArg Int32.toInt (show σ33 55 13 = (σ 55 13) from ((f36 13 (of_decide_eq_true rfl)).trans (congrFun (f20 55 (of_decide_eq_true rfl)) 13))))
     refine lv_pop hx hb dL_law_736 rfl ?_
     refine lv_goto (tgt := 1357) hx hb dL_law_737 (of_decide_eq_true rfl) ?_
     obtain ⟨x51, ex51⟩ : ∃ y : Int32, y = x0 + 6 := ⟨_, rfl⟩
     exact by
      have tx51 : x51.toInt = x0.toInt + 6 := (jadd ex51 rfl jz_6 (by omega) (by omega)).trans (by omega)
      refine lv_iinc (v := x51) (lv' := [(3, .int x51), (2, .ref (ad 55)), (1, .ref (ad 0)), (0, .ref b)]) hx hb dL_law_1357 hl (k := 0) rfl (by rw [ex51]; rfl) (of_decide_eq_true rfl) rfl (fun ls hl => ?_)
      refine lv_goto (tgt := 18) hx hb dL_law_1360 (of_decide_eq_true rfl) ?_
      have I52 : jI2 σ33 := jI2_fr ((congrFun (f35 2 (of_decide_eq_true rfl)) 0).trans (congrFun (f20 2 (of_decide_eq_true rfl)) 0)) ((congrFun (f35 2 (of_decide_eq_true rfl)) 1).trans (congrFun (f20 2 (of_decide_eq_true rfl)) 1)) ((congrFun (f35 2 (of_decide_eq_true rfl)) 2).trans (congrFun (f20 2 (of_decide_eq_true rfl)) 2)) ((congrFun (f35 2 (of_decide_eq_true rfl)) 3).trans (congrFun (f20 2 (of_decide_eq_true rfl)) 3)) ((f35 6 (of_decide_eq_true rfl)).trans (f20 6 (of_decide_eq_true rfl))) hI2
      have I53 : jI9 σ33 := jI9_fr ((congrFun (f35 9 (of_decide_eq_true rfl)) 0).trans (congrFun (f20 9 (of_decide_eq_true rfl)) 0)) ((f35 10 (of_decide_eq_true rfl)).trans (f20 10 (of_decide_eq_true rfl))) ((f35 11 (of_decide_eq_true rfl)).trans (f20 11 (of_decide_eq_true rfl))) hI9
      have I54 : jI12 σ33 := jI12_fr ((congrFun (f35 12 (of_decide_eq_true rfl)) 0).trans (congrFun (f20 12 (of_decide_eq_true rfl)) 0)) ((f35 13 (of_decide_eq_true rfl)).trans (f20 13 (of_decide_eq_true rfl))) hI12
      have I55 : jI16 σ33 := jI16_fr ((congrFun (f35 16 (of_decide_eq_true rfl)) 0).trans (congrFun (f20 16 (of_decide_eq_true rfl)) 0)) ((congrFun (f35 16 (of_decide_eq_true rfl)) 1).trans (congrFun (f20 16 (of_decide_eq_true rfl)) 1)) ((congrFun (f35 16 (of_decide_eq_true rfl)) 2).trans (congrFun (f20 16 (of_decide_eq_true rfl)) 2)) ((f35 17 (of_decide_eq_true rfl)).trans (f20 17 (of_decide_eq_true rfl))) hI16
      have I56 : jI18 σ33 := jI18_fr ((congrFun (f35 18 (of_decide_eq_true rfl)) 0).trans (congrFun (f20 18 (of_decide_eq_true rfl)) 0)) ((f35 19 (of_decide_eq_true rfl)).trans (f20 19 (of_decide_eq_true rfl))) hI18
      have I57 : jI22 σ33 := jI22_fr ((congrFun (f35 22 (of_decide_eq_true rfl)) 0).trans (congrFun (f20 22 (of_decide_eq_true rfl)) 0)) ((f35 23 (of_decide_eq_true rfl)).trans (f20 23 (of_decide_eq_true rfl))) hI22
      exact by
       have I58 : jI31 σ33 := jI31_fr (congrFun (f35 31 (of_decide_eq_true rfl)) 8) (f35 33 (of_decide_eq_true rfl)) (f35 36 (of_decide_eq_true rfl)) I22
       have I59 : jI38 σ33 := jI38_fr ((congrFun (f35 38 (of_decide_eq_true rfl)) 0).trans (congrFun (f20 38 (of_decide_eq_true rfl)) 0)) ((congrFun (f35 38 (of_decide_eq_true rfl)) 1).trans (congrFun (f20 38 (of_decide_eq_true rfl)) 1)) ((f35 39 (of_decide_eq_true rfl)).trans (f20 39 (of_decide_eq_true rfl))) hI38
       have I60 : jI43 σ33 := jI43_fr ((congrFun (f35 43 (of_decide_eq_true rfl)) 8).trans (congrFun (f20 43 (of_decide_eq_true rfl)) 8)) hI43
       have I61 : jI47 σ33 := jI47_fr ((congrFun (f35 47 (of_decide_eq_true rfl)) 0).trans (congrFun (f20 47 (of_decide_eq_true rfl)) 0)) ((f35 48 (of_decide_eq_true rfl)).trans (f20 48 (of_decide_eq_true rfl))) ((f35 49 (of_decide_eq_true rfl)).trans (f20 49 (of_decide_eq_true rfl))) hI47
       have I62 : jI50 σ33 := jI50_fr ((f35 52 (of_decide_eq_true rfl)).trans (f20 52 (of_decide_eq_true rfl))) hI50
       have I63 : jI101 σ33 := jI101_fr (f36 4 (of_decide_eq_true rfl)) (f36 5 (of_decide_eq_true rfl)) (f35 56 (of_decide_eq_true rfl)) (f35 57 (of_decide_eq_true rfl)) (f35 58 (of_decide_eq_true rfl)) (f35 59 (of_decide_eq_true rfl)) I24
       have I64 : jI102 σ33 := jI102_fr (f36 6 (of_decide_eq_true rfl)) (f35 60 (of_decide_eq_true rfl)) (f35 61 (of_decide_eq_true rfl)) I25
       have I65 : jI103 σ33 := jI103_fr (f36 9 (of_decide_eq_true rfl)) I26
       have I66 : jI105 σ33 := jI105_fr (f36 15 (of_decide_eq_true rfl)) (f35 65 (of_decide_eq_true rfl)) I28
       have I67 : jI106 σ33 := jI106_fr (f36 32 (of_decide_eq_true rfl)) (f35 70 (of_decide_eq_true rfl)) (f35 71 (of_decide_eq_true rfl)) (f35 72 (of_decide_eq_true rfl)) I29
       have I68 : jI107 σ33 := jI107_fr ((f36 12 (of_decide_eq_true rfl)).trans (congrFun (f20 55 (of_decide_eq_true rfl)) 12)) ((f36 47 (of_decide_eq_true rfl)).trans (congrFun (f20 55 (of_decide_eq_true rfl)) 47)) ((f35 80 (of_decide_eq_true rfl)).trans (f20 80 (of_decide_eq_true rfl))) hI107
       have I69 : jI109 σ33 := jI109_fr ((f36 50 (of_decide_eq_true rfl)).trans (congrFun (f20 55 (of_decide_eq_true rfl)) 50)) hI109
       have I70 : jI110 σ33 := jI110_fr ((f35 86 (of_decide_eq_true rfl)).trans (f20 86 (of_decide_eq_true rfl))) ((f35 87 (of_decide_eq_true rfl)).trans (f20 87 (of_decide_eq_true rfl))) hI110
       have p71 : jBook σ33 := jBook.fr ((f36 47 (of_decide_eq_true rfl)).trans (congrFun (f20 55 (of_decide_eq_true rfl)) 47)) ((f36 10 (of_decide_eq_true rfl)).trans (congrFun (f20 55 (of_decide_eq_true rfl)) 10)) ((f35 81 (of_decide_eq_true rfl)).trans (f20 81 (of_decide_eq_true rfl))) hs_jBook
       have z72 : (σ33 9 0).toInt = (σ 9 0).toInt := (congrArg Int32.toInt (show σ33 9 0 = (σ 9 0) from ((congrFun (f35 9 (of_decide_eq_true rfl)) 0).trans (congrFun (f20 9 (of_decide_eq_true rfl)) 0))))
       have z73 : (σ33 55 15).toInt = (σ 55 15).toInt := (congrArg Int32.toInt (show σ33 55 15 = (σ 55 15) from ((f36 15 (of_decide_eq_true rfl)).trans (congrFun (f20 55 (of_decide_eq_true rfl)) 15))))
       have z74 : (σ33 16 0).toInt = (σ 16 0).toInt := (congrArg Int32.toInt (show σ33 16 0 = (σ 16 0) from ((congrFun (f35 16 (of_decide_eq_true rfl)) 0).trans (congrFun (f20 16 (of_decide_eq_true rfl)) 0))))
       have z75 : (σ33 16 1).toInt = (σ 16 1).toInt := (congrArg Int32.toInt (show σ33 16 1 = (σ 16 1) from ((congrFun (f35 16 (of_decide_eq_true rfl)) 1).trans (congrFun (f20 16 (of_decide_eq_true rfl)) 1))))
       have z76 : (σ33 16 2).toInt = (σ 16 2).toInt := (congrArg Int32.toInt (show σ33 16 2 = (σ 16 2) from ((congrFun (f35 16 (of_decide_eq_true rfl)) 2).trans (congrFun (f20 16 (of_decide_eq_true rfl)) 2))))
       have z77 : (σ18 55 10).toInt = (σ 55 10).toInt := (congrArg Int32.toInt (show σ18 55 10 = (σ 55 10) from (congrFun (f20 55 (of_decide_eq_true rfl)) 10)))
       rw [show σ18 62 = σ 62 from (f20 62 (of_decide_eq_true rfl))] at w41
       exact by exact ih x51 σ33 τ _ _ ls (by have h9 := tx51; omega) ⟨I52, I53, I54, I55, I56, I57, I58, I59, I60, I61, I62, I63, I64, I65, I37, I66, I67, I68, I69, I70, I38, I39, p40, p71, (by omega), (by omega), (by omega), (by omega), (show jTp (σ33 10) (σ33 63) (σ33 55 15).toInt by rw [show σ33 10 = σ 10 from ((f35 10 (of_decide_eq_true rfl)).trans (f20 10 (of_decide_eq_true rfl))), show σ33 63 = σ 63 from ((f35 63 (of_decide_eq_true rfl)).trans (f20 63 (of_decide_eq_true rfl)))]; exact hr0.le (by omega)), (show jSo (σ33 17) (σ33 62) (σ33 16 0).toInt by rw [show σ33 17 = σ 17 from ((f35 17 (of_decide_eq_true rfl)).trans (f20 17 (of_decide_eq_true rfl))), show (σ33 16 0).toInt = (σ 16 0).toInt from by omega]; exact hr1.thru w41 (by omega))⟩ hP hS (lv_sub hl [0, 1, 2, 3] rfl)
set_option maxHeartbeats 4000000 in
set_option maxRecDepth 100000 in
theorem law_case_18 {p : Program} {e : Env} {s : State} {m : MethodId} {below : List Frame} {meth : Method} {c : Code} (l : Launch) {b L : Nat} {xs : Nat → Int32} {D : va_G} {cI cL : ClassId} {ad zz : Nat → Nat} (C0 : lw_At p s m meth c b L xs) (hJ : jD ad) (hA : ∀ q, jA ad q → s.heap.size ≤ q) (hK : jK D cI cL s) (hZ : jZ zz (fun q : Nat => s.heap.size ≤ q) s s.heap) {x0 : Int32} (hx0 : 0 ≤ x0.toInt) (hxL : x0.toInt + 6 ≤ (L : Int)) (hL : L ≤ 384) {σ : Nat → Nat → Int32} {τ : Nat → Nat → Int64} {H : Heap} {locs : List Loc} (hS : va_S (fun q : Nat => s.heap.size ≤ q) s.heap H locs) {ls : Array Slot} (hAll : jAll σ τ) (hP : jH D cI cL ad σ τ H) (hl : lv_has ls 4 [(3, .int x0), (2, .ref (ad 55)), (1, .ref (ad 0)), (0, .ref b)]) (ih : ∀ (x1 : Int32) (σ : Nat → Nat → Int32) (τ : Nat → Nat → Int64) (H : Heap) (locs : List Loc) (ls : Array Slot), x1.toInt = x0.toInt + 6 → jAll σ τ → jH D cI cL ad σ τ H → va_S (fun q : Nat => s.heap.size ≤ q) s.heap H locs → lv_has ls 4 [(3, .int x1), (2, .ref (ad 55)), (1, .ref (ad 0)), (0, .ref b)] → W p l e room_1 s m #[Value.ref b] below meth c H locs 90 348600 (lw_Z below #[Value.ref b] s) (F0 m 18 ls [])) : W p l e room_1 s m #[Value.ref b] below meth c H locs 90 348600 (lw_Z below #[Value.ref b] s) (F0 m 740 ls []) := by
  obtain ⟨hx, hb, hr, hml, hown, hts0, hX, hbl, hlocks, hgv⟩ := C0
  have hts : ∀ w ∈ wsL_law, w.before #[Value.ref b] s = true := fun w h => hts0 w (wsL_law_in w h)
  have hbA : ¬ (fun q : Nat => s.heap.size ≤ q) b := Nat.not_le.mpr hbl
  have hown : s.vm.findClass RL = some m.cls := hown
  obtain ⟨hI2, hI9, hI12, hI16, hI18, hI22, hI31, hI38, hI43, hI47, hI50, hI101, hI102, hI103, hI104, hI105, hI106, hI107, hI109, hI110, hI111, hI119, hs_jKept, hs_jBook, ht0, ht1, ht2, ht3, hr0, hr1⟩ := hAll
  have hL9 : (L : Int) ≤ 384 := by omega
  obtain ⟨i1, w2, w3⟩ : (0 ≤ (σ 9 0).toInt ∧ (σ 9 0).toInt ≤ 80) ∧ (∀ k : Nat, k < 80 → 0 ≤ (σ 10 k).toInt ∧ (σ 10 k).toInt ≤ 255) ∧ (∀ k : Nat, k < 8 → 0 ≤ (σ 11 k).toInt ∧ (σ 11 k).toInt ≤ 3) := id hI9
  obtain ⟨i4, i5, i6, w7⟩ : (1 ≤ (σ 16 0).toInt ∧ (σ 16 0).toInt ≤ 8) ∧ (1 ≤ (σ 16 1).toInt ∧ (σ 16 1).toInt ≤ 12) ∧ (0 ≤ (σ 16 2).toInt ∧ (σ 16 2).toInt ≤ 999) ∧ (∀ k : Nat, k < 8 → 0 ≤ (σ 17 k).toInt ∧ (σ 17 k).toInt ≤ 3) := id hI16
  obtain ⟨i8, i9, i10, w11, w12⟩ : (1 ≤ (σ 55 10).toInt ∧ (σ 55 10).toInt ≤ 8) ∧ (1 ≤ (σ 55 12).toInt ∧ (σ 55 12).toInt ≤ 12) ∧ (0 ≤ (σ 55 13).toInt ∧ (σ 55 13).toInt ≤ 999) ∧ (∀ k : Nat, k < 8 → 0 ≤ (σ 62 k).toInt ∧ (σ 62 k).toInt ≤ 3) ∧ (∀ k : Nat, k < 8 → 0 ≤ (σ 67 k).toInt ∧ (σ 67 k).toInt ≤ 3) := id hI104
  obtain ⟨i13, w14⟩ : (0 ≤ (σ 55 15).toInt ∧ (σ 55 15).toInt ≤ 80) ∧ (∀ k : Nat, k < 2 → (-1) ≤ (σ 65 k).toInt ∧ (σ 65 k).toInt ≤ 80) := id hI105
  refine lv_aload_n hx hb dL_law_740 rfl (lv_at hl 2 rfl) ?_
  refine lv_aload_n hx hb dL_law_741 rfl (lv_at hl 3 rfl) ?_
  refine lv_iload_n hx hb dL_law_742 rfl (lv_at hl 0 rfl) ?_
  refine lv_iconst (v := 1) hx hb dL_law_743 (of_decide_eq_true rfl) ?_
  have g15 := jrg (rfl : x0.toInt = x0.toInt)
  refine lv_iadd hx hb dL_law_744 ?_
  refine lv_topi (fun x16 ex16 => ?_)
  exact by
   have tx16 : x16.toInt = x0.toInt + 1 := (jadd ex16 rfl jz_1 (by omega) (by omega)).trans (by omega)
   refine va_sld hx hb hX hbl hbA hS (jin tx16 (by omega) (by omega)) dL_law_745 ?_
   have g17 := jrg (rfl : (xs x16.toNatClampNeg).toInt = (xs x16.toNatClampNeg).toInt)
   refine lv_aload_n hx hb dL_law_746 rfl (lv_at hl 3 rfl) ?_
   refine lv_iload_n hx hb dL_law_747 rfl (lv_at hl 0 rfl) ?_
   refine lv_iconst (v := 2) hx hb dL_law_748 (of_decide_eq_true rfl) ?_
   refine lv_iadd hx hb dL_law_749 ?_
   refine lv_topi (fun x18 ex18 => ?_)
   have tx18 : x18.toInt = x0.toInt + 2 := (jadd ex18 rfl jz_2 (by omega) (by omega)).trans (by omega)
   exact by
    refine va_sld hx hb hX hbl hbA hS (jin tx18 (by omega) (by omega)) dL_law_750 ?_
    have g19 := jrg (rfl : (xs x18.toNatClampNeg).toInt = (xs x18.toNatClampNeg).toInt)
    refine jcallV (As := [.int (xs x16.toNatClampNeg), .int (xs x18.toNatClampNeg)]) (rest := []) ⟨hx, hb, hml, hown, hts⟩ hK hP hA hS hZ (c_X11_learn l D cI cL ad zz hJ σ τ (xs x16.toNatClampNeg) ((xs x16.toNatClampNeg).toInt) rfl (xs x18.toNatClampNeg) ((xs x18.toNatClampNeg).toInt) rfl hI2) cw_RL_89 (jc_0 cI cL ad σ τ) rfl ⟨Nat.le_of_ble_eq_true rfl, Nat.le_of_ble_eq_true rfl⟩ rfl rfl rfl hl.1 rfl (Nat.le_of_ble_eq_true rfl) dL_law_751 ⟨Nat.le_of_ble_eq_true rfl, Nat.le_of_ble_eq_true rfl⟩ (fun r21 σ20 τ20 H locs h20 hP hS => ?_)
    obtain ⟨rfl, f22, f23, I24, h20⟩ := h20
    rcases h20 with h26 | h27
    · obtain ⟨q32, k28, k29, k30, k31⟩ := h26
      have q32 := q32.symm
      subst q32
      refine lv_pop hx hb dL_law_754 rfl ?_
      refine lv_aload_n hx hb dL_law_755 rfl (lv_at hl 1 rfl) ?_
      refine lv_aload_n hx hb dL_law_756 rfl (lv_at hl 3 rfl) ?_
      refine lv_iload_n hx hb dL_law_757 rfl (lv_at hl 0 rfl) ?_
      refine lv_iconst (v := 1) hx hb dL_law_758 (of_decide_eq_true rfl) ?_
      refine lv_iadd hx hb dL_law_759 ?_
      refine jtopr ex16.symm ?_
      exact by
       refine va_sld hx hb hX hbl hbA hS (jin tx16 (by omega) (by omega)) dL_law_760 ?_
       refine lv_aload_n hx hb dL_law_761 rfl (lv_at hl 3 rfl) ?_
       refine lv_iload_n hx hb dL_law_762 rfl (lv_at hl 0 rfl) ?_
       refine lv_iconst (v := 2) hx hb dL_law_763 (of_decide_eq_true rfl) ?_
       refine lv_iadd hx hb dL_law_764 ?_
       refine jtopr ex18.symm ?_
       refine va_sld hx hb hX hbl hbA hS (jin tx18 (by omega) (by omega)) dL_law_765 ?_
       have I33 : jI101 σ20 := jI101_fr (congrFun (f22 55 (of_decide_eq_true rfl)) 4) (congrFun (f22 55 (of_decide_eq_true rfl)) 5) (f22 56 (of_decide_eq_true rfl)) (f22 57 (of_decide_eq_true rfl)) (f22 58 (of_decide_eq_true rfl)) (f22 59 (of_decide_eq_true rfl)) hI101
       have I34 : jI102 σ20 := jI102_fr (congrFun (f22 55 (of_decide_eq_true rfl)) 6) (f22 60 (of_decide_eq_true rfl)) (f22 61 (of_decide_eq_true rfl)) hI102
       exact by
        have z35 : (σ20 55 6).toInt = (σ 55 6).toInt := (congrArg Int32.toInt (show σ20 55 6 = (σ 55 6) from (congrFun (f22 55 (of_decide_eq_true rfl)) 6)))
        have z36 : (σ20 55 5).toInt = (σ 55 5).toInt := (congrArg Int32.toInt (show σ20 55 5 = (σ 55 5) from (congrFun (f22 55 (of_decide_eq_true rfl)) 5)))
        have z37 : (σ20 55 4).toInt = (σ 55 4).toInt := (congrArg Int32.toInt (show σ20 55 4 = (σ 55 4) from (congrFun (f22 55 (of_decide_eq_true rfl)) 4)))
        refine jcallV (As := [.int (xs x16.toNatClampNeg), .int (xs x18.toNatClampNeg)]) (rest := []) ⟨hx, hb, hml, hown, hts⟩ hK hP hA hS hZ (c_X12_learn l D cI cL ad zz hJ σ20 τ (xs x16.toNatClampNeg) ((xs x16.toNatClampNeg).toInt) rfl (xs x18.toNatClampNeg) ((xs x18.toNatClampNeg).toInt) rfl I33 I34) cw_RL_92 (jc_55 cI cL ad σ20 τ) rfl ⟨Nat.le_of_ble_eq_true rfl, Nat.le_of_ble_eq_true rfl⟩ rfl rfl rfl hl.1 rfl (Nat.le_of_ble_eq_true rfl) dL_law_766 ⟨Nat.le_of_ble_eq_true rfl, Nat.le_of_ble_eq_true rfl⟩ (fun r39 σ38 τ38 H locs h38 hP hS => ?_)
        obtain ⟨rfl, f40, f41, I42, h38⟩ := h38
        rcases h38 with h44 | h45
        · obtain ⟨q50, k46, k47, k48, k49⟩ := h44
          have q50 := q50.symm
          subst q50
          refine lv_pop hx hb dL_law_769 rfl ?_
          refine lv_goto (tgt := 1357) hx hb dL_law_770 (of_decide_eq_true rfl) ?_
          obtain ⟨x51, ex51⟩ : ∃ y : Int32, y = x0 + 6 := ⟨_, rfl⟩
          exact by
           have tx51 : x51.toInt = x0.toInt + 6 := (jadd ex51 rfl jz_6 (by omega) (by omega)).trans (by omega)
           refine lv_iinc (v := x51) (lv' := [(3, .int x51), (2, .ref (ad 55)), (1, .ref (ad 0)), (0, .ref b)]) hx hb dL_law_1357 hl (k := 0) rfl (by rw [ex51]; rfl) (of_decide_eq_true rfl) rfl (fun ls hl => ?_)
           refine lv_goto (tgt := 18) hx hb dL_law_1360 (of_decide_eq_true rfl) ?_
           have I52 : jI2 σ38 := jI2_fr (congrFun (f40 2 (of_decide_eq_true rfl)) 0) (congrFun (f40 2 (of_decide_eq_true rfl)) 1) (congrFun (f40 2 (of_decide_eq_true rfl)) 2) (congrFun (f40 2 (of_decide_eq_true rfl)) 3) (f40 6 (of_decide_eq_true rfl)) I24
           have I53 : jI9 σ38 := jI9_fr ((congrFun (f40 9 (of_decide_eq_true rfl)) 0).trans (congrFun (f22 9 (of_decide_eq_true rfl)) 0)) ((f40 10 (of_decide_eq_true rfl)).trans (f22 10 (of_decide_eq_true rfl))) ((f40 11 (of_decide_eq_true rfl)).trans (f22 11 (of_decide_eq_true rfl))) hI9
           have I54 : jI12 σ38 := jI12_fr ((congrFun (f40 12 (of_decide_eq_true rfl)) 0).trans (congrFun (f22 12 (of_decide_eq_true rfl)) 0)) ((f40 13 (of_decide_eq_true rfl)).trans (f22 13 (of_decide_eq_true rfl))) hI12
           have I55 : jI16 σ38 := jI16_fr ((congrFun (f40 16 (of_decide_eq_true rfl)) 0).trans (congrFun (f22 16 (of_decide_eq_true rfl)) 0)) ((congrFun (f40 16 (of_decide_eq_true rfl)) 1).trans (congrFun (f22 16 (of_decide_eq_true rfl)) 1)) ((congrFun (f40 16 (of_decide_eq_true rfl)) 2).trans (congrFun (f22 16 (of_decide_eq_true rfl)) 2)) ((f40 17 (of_decide_eq_true rfl)).trans (f22 17 (of_decide_eq_true rfl))) hI16
           have I56 : jI18 σ38 := jI18_fr ((congrFun (f40 18 (of_decide_eq_true rfl)) 0).trans (congrFun (f22 18 (of_decide_eq_true rfl)) 0)) ((f40 19 (of_decide_eq_true rfl)).trans (f22 19 (of_decide_eq_true rfl))) hI18
           have I57 : jI22 σ38 := jI22_fr ((congrFun (f40 22 (of_decide_eq_true rfl)) 0).trans (congrFun (f22 22 (of_decide_eq_true rfl)) 0)) ((f40 23 (of_decide_eq_true rfl)).trans (f22 23 (of_decide_eq_true rfl))) hI22
           exact by
            have I58 : jI31 σ38 := jI31_fr ((congrFun (f40 31 (of_decide_eq_true rfl)) 8).trans (congrFun (f22 31 (of_decide_eq_true rfl)) 8)) ((f40 33 (of_decide_eq_true rfl)).trans (f22 33 (of_decide_eq_true rfl))) ((f40 36 (of_decide_eq_true rfl)).trans (f22 36 (of_decide_eq_true rfl))) hI31
            have I59 : jI38 σ38 := jI38_fr ((congrFun (f40 38 (of_decide_eq_true rfl)) 0).trans (congrFun (f22 38 (of_decide_eq_true rfl)) 0)) ((congrFun (f40 38 (of_decide_eq_true rfl)) 1).trans (congrFun (f22 38 (of_decide_eq_true rfl)) 1)) ((f40 39 (of_decide_eq_true rfl)).trans (f22 39 (of_decide_eq_true rfl))) hI38
            have I60 : jI43 σ38 := jI43_fr ((congrFun (f40 43 (of_decide_eq_true rfl)) 8).trans (congrFun (f22 43 (of_decide_eq_true rfl)) 8)) hI43
            have I61 : jI47 σ38 := jI47_fr ((congrFun (f40 47 (of_decide_eq_true rfl)) 0).trans (congrFun (f22 47 (of_decide_eq_true rfl)) 0)) ((f40 48 (of_decide_eq_true rfl)).trans (f22 48 (of_decide_eq_true rfl))) ((f40 49 (of_decide_eq_true rfl)).trans (f22 49 (of_decide_eq_true rfl))) hI47
            have I62 : jI50 σ38 := jI50_fr ((f40 52 (of_decide_eq_true rfl)).trans (f22 52 (of_decide_eq_true rfl))) hI50
            have I63 : jI102 σ38 := jI102_fr (f41 6 (of_decide_eq_true rfl)) (f40 60 (of_decide_eq_true rfl)) (f40 61 (of_decide_eq_true rfl)) I34
            have I64 : jI103 σ38 := jI103_fr ((f41 9 (of_decide_eq_true rfl)).trans (congrFun (f22 55 (of_decide_eq_true rfl)) 9)) hI103
            have I65 : jI104 σ38 := jI104_fr ((f41 10 (of_decide_eq_true rfl)).trans (congrFun (f22 55 (of_decide_eq_true rfl)) 10)) ((f41 12 (of_decide_eq_true rfl)).trans (congrFun (f22 55 (of_decide_eq_true rfl)) 12)) ((f41 13 (of_decide_eq_true rfl)).trans (congrFun (f22 55 (of_decide_eq_true rfl)) 13)) ((f40 62 (of_decide_eq_true rfl)).trans (f22 62 (of_decide_eq_true rfl))) ((f40 67 (of_decide_eq_true rfl)).trans (f22 67 (of_decide_eq_true rfl))) hI104
            have I66 : jI105 σ38 := jI105_fr ((f41 15 (of_decide_eq_true rfl)).trans (congrFun (f22 55 (of_decide_eq_true rfl)) 15)) ((f40 65 (of_decide_eq_true rfl)).trans (f22 65 (of_decide_eq_true rfl))) hI105
            have I67 : jI106 σ38 := jI106_fr ((f41 32 (of_decide_eq_true rfl)).trans (congrFun (f22 55 (of_decide_eq_true rfl)) 32)) ((f40 70 (of_decide_eq_true rfl)).trans (f22 70 (of_decide_eq_true rfl))) ((f40 71 (of_decide_eq_true rfl)).trans (f22 71 (of_decide_eq_true rfl))) ((f40 72 (of_decide_eq_true rfl)).trans (f22 72 (of_decide_eq_true rfl))) hI106
            have I68 : jI107 σ38 := jI107_fr ((f41 12 (of_decide_eq_true rfl)).trans (congrFun (f22 55 (of_decide_eq_true rfl)) 12)) ((f41 47 (of_decide_eq_true rfl)).trans (congrFun (f22 55 (of_decide_eq_true rfl)) 47)) ((f40 80 (of_decide_eq_true rfl)).trans (f22 80 (of_decide_eq_true rfl))) hI107
            have I69 : jI109 σ38 := jI109_fr ((f41 50 (of_decide_eq_true rfl)).trans (congrFun (f22 55 (of_decide_eq_true rfl)) 50)) hI109
            have I70 : jI110 σ38 := jI110_fr ((f40 86 (of_decide_eq_true rfl)).trans (f22 86 (of_decide_eq_true rfl))) ((f40 87 (of_decide_eq_true rfl)).trans (f22 87 (of_decide_eq_true rfl))) hI110
            have I71 : jI111 σ38 := jI111_fr ((f40 79 (of_decide_eq_true rfl)).trans (f22 79 (of_decide_eq_true rfl))) hI111
            have I72 : jI119 σ38 := jI119_fr ((f40 68 (of_decide_eq_true rfl)).trans (f22 68 (of_decide_eq_true rfl))) hI119
            have p73 : jKept σ38 := jKept.fr ((f40 75 (of_decide_eq_true rfl)).trans (f22 75 (of_decide_eq_true rfl))) ((f40 76 (of_decide_eq_true rfl)).trans (f22 76 (of_decide_eq_true rfl))) ((f40 77 (of_decide_eq_true rfl)).trans (f22 77 (of_decide_eq_true rfl))) hs_jKept
            have p74 : jBook σ38 := jBook.fr ((f41 47 (of_decide_eq_true rfl)).trans (congrFun (f22 55 (of_decide_eq_true rfl)) 47)) ((f41 10 (of_decide_eq_true rfl)).trans (congrFun (f22 55 (of_decide_eq_true rfl)) 10)) ((f40 81 (of_decide_eq_true rfl)).trans (f22 81 (of_decide_eq_true rfl))) hs_jBook
            have z75 : (σ38 9 0).toInt = (σ 9 0).toInt := (congrArg Int32.toInt (show σ38 9 0 = (σ 9 0) from ((congrFun (f40 9 (of_decide_eq_true rfl)) 0).trans (congrFun (f22 9 (of_decide_eq_true rfl)) 0))))
            have z76 : (σ38 55 15).toInt = (σ 55 15).toInt := (congrArg Int32.toInt (show σ38 55 15 = (σ 55 15) from ((f41 15 (of_decide_eq_true rfl)).trans (congrFun (f22 55 (of_decide_eq_true rfl)) 15))))
            have z77 : (σ38 16 0).toInt = (σ 16 0).toInt := (congrArg Int32.toInt (show σ38 16 0 = (σ 16 0) from ((congrFun (f40 16 (of_decide_eq_true rfl)) 0).trans (congrFun (f22 16 (of_decide_eq_true rfl)) 0))))
            have z78 : (σ38 55 10).toInt = (σ 55 10).toInt := (congrArg Int32.toInt (show σ38 55 10 = (σ 55 10) from ((f41 10 (of_decide_eq_true rfl)).trans (congrFun (f22 55 (of_decide_eq_true rfl)) 10))))
            have z79 : (σ38 16 1).toInt = (σ 16 1).toInt := (congrArg Int32.toInt (show σ38 16 1 = (σ 16 1) from ((congrFun (f40 16 (of_decide_eq_true rfl)) 1).trans (congrFun (f22 16 (of_decide_eq_true rfl)) 1))))
            have z80 : (σ38 55 12).toInt = (σ 55 12).toInt := (congrArg Int32.toInt (show σ38 55 12 = (σ 55 12) from ((f41 12 (of_decide_eq_true rfl)).trans (congrFun (f22 55 (of_decide_eq_true rfl)) 12))))
            have z81 : (σ38 16 2).toInt = (σ 16 2).toInt := (congrArg Int32.toInt (show σ38 16 2 = (σ 16 2) from ((congrFun (f40 16 (of_decide_eq_true rfl)) 2).trans (congrFun (f22 16 (of_decide_eq_true rfl)) 2))))
            have z82 : (σ38 55 13).toInt = (σ 55 13).toInt := (congrArg Int32.toInt (show σ38 55 13 = (σ 55 13) from ((f41 13 (of_decide_eq_true rfl)).trans (congrFun (f22 55 (of_decide_eq_true rfl)) 13))))
            exact by exact ih x51 σ38 τ _ _ ls (by have h9 := tx51; omega) ⟨I52, I53, I54, I55, I56, I57, I58, I59, I60, I61, I62, I42, I63, I64, I65, I66, I67, I68, I69, I70, I71, I72, p73, p74, (by omega), (by omega), (by omega), (by omega), (show jTp (σ38 10) (σ38 63) (σ38 55 15).toInt by rw [show σ38 10 = σ 10 from ((f40 10 (of_decide_eq_true rfl)).trans (f22 10 (of_decide_eq_true rfl))), show σ38 63 = σ 63 from ((f40 63 (of_decide_eq_true rfl)).trans (f22 63 (of_decide_eq_true rfl)))]; exact hr0.le (by omega)), (show jSo (σ38 17) (σ38 62) (σ38 16 0).toInt by rw [show σ38 17 = σ 17 from ((f40 17 (of_decide_eq_true rfl)).trans (f22 17 (of_decide_eq_true rfl))), show σ38 62 = σ 62 from ((f40 62 (of_decide_eq_true rfl)).trans (f22 62 (of_decide_eq_true rfl))), show (σ38 16 0).toInt = (σ 16 0).toInt from by omega]; exact hr1)⟩ hP hS (lv_sub hl [0, 1, 2, 3] rfl)
        · obtain ⟨q90, k83, k84, k85, k86, k87, k88, k89⟩ := h45
          refine lv_pop hx hb dL_law_769 rfl ?_
          refine lv_goto (tgt := 1357) hx hb dL_law_770 (of_decide_eq_true rfl) ?_
          obtain ⟨x91, ex91⟩ : ∃ y : Int32, y = x0 + 6 := ⟨_, rfl⟩
          exact by
           have tx91 : x91.toInt = x0.toInt + 6 := (jadd ex91 rfl jz_6 (by omega) (by omega)).trans (by omega)
           refine lv_iinc (v := x91) (lv' := [(3, .int x91), (2, .ref (ad 55)), (1, .ref (ad 0)), (0, .ref b)]) hx hb dL_law_1357 hl (k := 0) rfl (by rw [ex91]; rfl) (of_decide_eq_true rfl) rfl (fun ls hl => ?_)
           refine lv_goto (tgt := 18) hx hb dL_law_1360 (of_decide_eq_true rfl) ?_
           have I92 : jI2 σ38 := jI2_fr (congrFun (f40 2 (of_decide_eq_true rfl)) 0) (congrFun (f40 2 (of_decide_eq_true rfl)) 1) (congrFun (f40 2 (of_decide_eq_true rfl)) 2) (congrFun (f40 2 (of_decide_eq_true rfl)) 3) (f40 6 (of_decide_eq_true rfl)) I24
           have I93 : jI9 σ38 := jI9_fr ((congrFun (f40 9 (of_decide_eq_true rfl)) 0).trans (congrFun (f22 9 (of_decide_eq_true rfl)) 0)) ((f40 10 (of_decide_eq_true rfl)).trans (f22 10 (of_decide_eq_true rfl))) ((f40 11 (of_decide_eq_true rfl)).trans (f22 11 (of_decide_eq_true rfl))) hI9
           have I94 : jI12 σ38 := jI12_fr ((congrFun (f40 12 (of_decide_eq_true rfl)) 0).trans (congrFun (f22 12 (of_decide_eq_true rfl)) 0)) ((f40 13 (of_decide_eq_true rfl)).trans (f22 13 (of_decide_eq_true rfl))) hI12
           have I95 : jI16 σ38 := jI16_fr ((congrFun (f40 16 (of_decide_eq_true rfl)) 0).trans (congrFun (f22 16 (of_decide_eq_true rfl)) 0)) ((congrFun (f40 16 (of_decide_eq_true rfl)) 1).trans (congrFun (f22 16 (of_decide_eq_true rfl)) 1)) ((congrFun (f40 16 (of_decide_eq_true rfl)) 2).trans (congrFun (f22 16 (of_decide_eq_true rfl)) 2)) ((f40 17 (of_decide_eq_true rfl)).trans (f22 17 (of_decide_eq_true rfl))) hI16
           have I96 : jI18 σ38 := jI18_fr ((congrFun (f40 18 (of_decide_eq_true rfl)) 0).trans (congrFun (f22 18 (of_decide_eq_true rfl)) 0)) ((f40 19 (of_decide_eq_true rfl)).trans (f22 19 (of_decide_eq_true rfl))) hI18
           have I97 : jI22 σ38 := jI22_fr ((congrFun (f40 22 (of_decide_eq_true rfl)) 0).trans (congrFun (f22 22 (of_decide_eq_true rfl)) 0)) ((f40 23 (of_decide_eq_true rfl)).trans (f22 23 (of_decide_eq_true rfl))) hI22
           exact by
            have I98 : jI31 σ38 := jI31_fr ((congrFun (f40 31 (of_decide_eq_true rfl)) 8).trans (congrFun (f22 31 (of_decide_eq_true rfl)) 8)) ((f40 33 (of_decide_eq_true rfl)).trans (f22 33 (of_decide_eq_true rfl))) ((f40 36 (of_decide_eq_true rfl)).trans (f22 36 (of_decide_eq_true rfl))) hI31
            have I99 : jI38 σ38 := jI38_fr ((congrFun (f40 38 (of_decide_eq_true rfl)) 0).trans (congrFun (f22 38 (of_decide_eq_true rfl)) 0)) ((congrFun (f40 38 (of_decide_eq_true rfl)) 1).trans (congrFun (f22 38 (of_decide_eq_true rfl)) 1)) ((f40 39 (of_decide_eq_true rfl)).trans (f22 39 (of_decide_eq_true rfl))) hI38
            have I100 : jI43 σ38 := jI43_fr ((congrFun (f40 43 (of_decide_eq_true rfl)) 8).trans (congrFun (f22 43 (of_decide_eq_true rfl)) 8)) hI43
            have I101 : jI47 σ38 := jI47_fr ((congrFun (f40 47 (of_decide_eq_true rfl)) 0).trans (congrFun (f22 47 (of_decide_eq_true rfl)) 0)) ((f40 48 (of_decide_eq_true rfl)).trans (f22 48 (of_decide_eq_true rfl))) ((f40 49 (of_decide_eq_true rfl)).trans (f22 49 (of_decide_eq_true rfl))) hI47
            have I102 : jI50 σ38 := jI50_fr ((f40 52 (of_decide_eq_true rfl)).trans (f22 52 (of_decide_eq_true rfl))) hI50
            have I103 : jI102 σ38 := jI102_fr (f41 6 (of_decide_eq_true rfl)) (f40 60 (of_decide_eq_true rfl)) (f40 61 (of_decide_eq_true rfl)) I34
            have I104 : jI103 σ38 := jI103_fr ((f41 9 (of_decide_eq_true rfl)).trans (congrFun (f22 55 (of_decide_eq_true rfl)) 9)) hI103
            have I105 : jI104 σ38 := jI104_fr ((f41 10 (of_decide_eq_true rfl)).trans (congrFun (f22 55 (of_decide_eq_true rfl)) 10)) ((f41 12 (of_decide_eq_true rfl)).trans (congrFun (f22 55 (of_decide_eq_true rfl)) 12)) ((f41 13 (of_decide_eq_true rfl)).trans (congrFun (f22 55 (of_decide_eq_true rfl)) 13)) ((f40 62 (of_decide_eq_true rfl)).trans (f22 62 (of_decide_eq_true rfl))) ((f40 67 (of_decide_eq_true rfl)).trans (f22 67 (of_decide_eq_true rfl))) hI104
            have I106 : jI105 σ38 := jI105_fr ((f41 15 (of_decide_eq_true rfl)).trans (congrFun (f22 55 (of_decide_eq_true rfl)) 15)) ((f40 65 (of_decide_eq_true rfl)).trans (f22 65 (of_decide_eq_true rfl))) hI105
            have I107 : jI106 σ38 := jI106_fr ((f41 32 (of_decide_eq_true rfl)).trans (congrFun (f22 55 (of_decide_eq_true rfl)) 32)) ((f40 70 (of_decide_eq_true rfl)).trans (f22 70 (of_decide_eq_true rfl))) ((f40 71 (of_decide_eq_true rfl)).trans (f22 71 (of_decide_eq_true rfl))) ((f40 72 (of_decide_eq_true rfl)).trans (f22 72 (of_decide_eq_true rfl))) hI106
            have I108 : jI107 σ38 := jI107_fr ((f41 12 (of_decide_eq_true rfl)).trans (congrFun (f22 55 (of_decide_eq_true rfl)) 12)) ((f41 47 (of_decide_eq_true rfl)).trans (congrFun (f22 55 (of_decide_eq_true rfl)) 47)) ((f40 80 (of_decide_eq_true rfl)).trans (f22 80 (of_decide_eq_true rfl))) hI107
            have I109 : jI109 σ38 := jI109_fr ((f41 50 (of_decide_eq_true rfl)).trans (congrFun (f22 55 (of_decide_eq_true rfl)) 50)) hI109
            have I110 : jI110 σ38 := jI110_fr ((f40 86 (of_decide_eq_true rfl)).trans (f22 86 (of_decide_eq_true rfl))) ((f40 87 (of_decide_eq_true rfl)).trans (f22 87 (of_decide_eq_true rfl))) hI110
            have I111 : jI111 σ38 := jI111_fr ((f40 79 (of_decide_eq_true rfl)).trans (f22 79 (of_decide_eq_true rfl))) hI111
            have I112 : jI119 σ38 := jI119_fr ((f40 68 (of_decide_eq_true rfl)).trans (f22 68 (of_decide_eq_true rfl))) hI119
            have p113 : jKept σ38 := jKept.fr ((f40 75 (of_decide_eq_true rfl)).trans (f22 75 (of_decide_eq_true rfl))) ((f40 76 (of_decide_eq_true rfl)).trans (f22 76 (of_decide_eq_true rfl))) ((f40 77 (of_decide_eq_true rfl)).trans (f22 77 (of_decide_eq_true rfl))) hs_jKept
            have p114 : jBook σ38 := jBook.fr ((f41 47 (of_decide_eq_true rfl)).trans (congrFun (f22 55 (of_decide_eq_true rfl)) 47)) ((f41 10 (of_decide_eq_true rfl)).trans (congrFun (f22 55 (of_decide_eq_true rfl)) 10)) ((f40 81 (of_decide_eq_true rfl)).trans (f22 81 (of_decide_eq_true rfl))) hs_jBook
            have z115 : (σ38 9 0).toInt = (σ 9 0).toInt := (congrArg Int32.toInt (show σ38 9 0 = (σ 9 0) from ((congrFun (f40 9 (of_decide_eq_true rfl)) 0).trans (congrFun (f22 9 (of_decide_eq_true rfl)) 0))))
            have z116 : (σ38 55 15).toInt = (σ 55 15).toInt := (congrArg Int32.toInt (show σ38 55 15 = (σ 55 15) from ((f41 15 (of_decide_eq_true rfl)).trans (congrFun (f22 55 (of_decide_eq_true rfl)) 15))))
            have z117 : (σ38 16 0).toInt = (σ 16 0).toInt := (congrArg Int32.toInt (show σ38 16 0 = (σ 16 0) from ((congrFun (f40 16 (of_decide_eq_true rfl)) 0).trans (congrFun (f22 16 (of_decide_eq_true rfl)) 0))))
            have z118 : (σ38 55 10).toInt = (σ 55 10).toInt := (congrArg Int32.toInt (show σ38 55 10 = (σ 55 10) from ((f41 10 (of_decide_eq_true rfl)).trans (congrFun (f22 55 (of_decide_eq_true rfl)) 10))))
            have z119 : (σ38 16 1).toInt = (σ 16 1).toInt := (congrArg Int32.toInt (show σ38 16 1 = (σ 16 1) from ((congrFun (f40 16 (of_decide_eq_true rfl)) 1).trans (congrFun (f22 16 (of_decide_eq_true rfl)) 1))))
            have z120 : (σ38 55 12).toInt = (σ 55 12).toInt := (congrArg Int32.toInt (show σ38 55 12 = (σ 55 12) from ((f41 12 (of_decide_eq_true rfl)).trans (congrFun (f22 55 (of_decide_eq_true rfl)) 12))))
            have z121 : (σ38 16 2).toInt = (σ 16 2).toInt := (congrArg Int32.toInt (show σ38 16 2 = (σ 16 2) from ((congrFun (f40 16 (of_decide_eq_true rfl)) 2).trans (congrFun (f22 16 (of_decide_eq_true rfl)) 2))))
            have z122 : (σ38 55 13).toInt = (σ 55 13).toInt := (congrArg Int32.toInt (show σ38 55 13 = (σ 55 13) from ((f41 13 (of_decide_eq_true rfl)).trans (congrFun (f22 55 (of_decide_eq_true rfl)) 13))))
            exact by exact ih x91 σ38 τ _ _ ls (by have h9 := tx91; omega) ⟨I92, I93, I94, I95, I96, I97, I98, I99, I100, I101, I102, I42, I103, I104, I105, I106, I107, I108, I109, I110, I111, I112, p113, p114, (by omega), (by omega), (by omega), (by omega), (show jTp (σ38 10) (σ38 63) (σ38 55 15).toInt by rw [show σ38 10 = σ 10 from ((f40 10 (of_decide_eq_true rfl)).trans (f22 10 (of_decide_eq_true rfl))), show σ38 63 = σ 63 from ((f40 63 (of_decide_eq_true rfl)).trans (f22 63 (of_decide_eq_true rfl)))]; exact hr0.le (by omega)), (show jSo (σ38 17) (σ38 62) (σ38 16 0).toInt by rw [show σ38 17 = σ 17 from ((f40 17 (of_decide_eq_true rfl)).trans (f22 17 (of_decide_eq_true rfl))), show σ38 62 = σ 62 from ((f40 62 (of_decide_eq_true rfl)).trans (f22 62 (of_decide_eq_true rfl))), show (σ38 16 0).toInt = (σ 16 0).toInt from by omega]; exact hr1)⟩ hP hS (lv_sub hl [0, 1, 2, 3] rfl)
    · obtain ⟨q130, k123, k124, k125, k126, k127, k128, k129⟩ := h27
      refine lv_pop hx hb dL_law_754 rfl ?_
      refine lv_aload_n hx hb dL_law_755 rfl (lv_at hl 1 rfl) ?_
      refine lv_aload_n hx hb dL_law_756 rfl (lv_at hl 3 rfl) ?_
      refine lv_iload_n hx hb dL_law_757 rfl (lv_at hl 0 rfl) ?_
      refine lv_iconst (v := 1) hx hb dL_law_758 (of_decide_eq_true rfl) ?_
      refine lv_iadd hx hb dL_law_759 ?_
      refine jtopr ex16.symm ?_
      exact by
       refine va_sld hx hb hX hbl hbA hS (jin tx16 (by omega) (by omega)) dL_law_760 ?_
       refine lv_aload_n hx hb dL_law_761 rfl (lv_at hl 3 rfl) ?_
       refine lv_iload_n hx hb dL_law_762 rfl (lv_at hl 0 rfl) ?_
       refine lv_iconst (v := 2) hx hb dL_law_763 (of_decide_eq_true rfl) ?_
       refine lv_iadd hx hb dL_law_764 ?_
       refine jtopr ex18.symm ?_
       refine va_sld hx hb hX hbl hbA hS (jin tx18 (by omega) (by omega)) dL_law_765 ?_
       have I131 : jI101 σ20 := jI101_fr (congrFun (f22 55 (of_decide_eq_true rfl)) 4) (congrFun (f22 55 (of_decide_eq_true rfl)) 5) (f22 56 (of_decide_eq_true rfl)) (f22 57 (of_decide_eq_true rfl)) (f22 58 (of_decide_eq_true rfl)) (f22 59 (of_decide_eq_true rfl)) hI101
       have I132 : jI102 σ20 := jI102_fr (congrFun (f22 55 (of_decide_eq_true rfl)) 6) (f22 60 (of_decide_eq_true rfl)) (f22 61 (of_decide_eq_true rfl)) hI102
       exact by
        have z133 : (σ20 55 6).toInt = (σ 55 6).toInt := (congrArg Int32.toInt (show σ20 55 6 = (σ 55 6) from (congrFun (f22 55 (of_decide_eq_true rfl)) 6)))
        have z134 : (σ20 55 5).toInt = (σ 55 5).toInt := (congrArg Int32.toInt (show σ20 55 5 = (σ 55 5) from (congrFun (f22 55 (of_decide_eq_true rfl)) 5)))
        have z135 : (σ20 55 4).toInt = (σ 55 4).toInt := (congrArg Int32.toInt (show σ20 55 4 = (σ 55 4) from (congrFun (f22 55 (of_decide_eq_true rfl)) 4)))
        refine jcallV (As := [.int (xs x16.toNatClampNeg), .int (xs x18.toNatClampNeg)]) (rest := []) ⟨hx, hb, hml, hown, hts⟩ hK hP hA hS hZ (c_X12_learn l D cI cL ad zz hJ σ20 τ (xs x16.toNatClampNeg) ((xs x16.toNatClampNeg).toInt) rfl (xs x18.toNatClampNeg) ((xs x18.toNatClampNeg).toInt) rfl I131 I132) cw_RL_92 (jc_55 cI cL ad σ20 τ) rfl ⟨Nat.le_of_ble_eq_true rfl, Nat.le_of_ble_eq_true rfl⟩ rfl rfl rfl hl.1 rfl (Nat.le_of_ble_eq_true rfl) dL_law_766 ⟨Nat.le_of_ble_eq_true rfl, Nat.le_of_ble_eq_true rfl⟩ (fun r137 σ136 τ136 H locs h136 hP hS => ?_)
        obtain ⟨rfl, f138, f139, I140, h136⟩ := h136
        rcases h136 with h142 | h143
        · obtain ⟨q148, k144, k145, k146, k147⟩ := h142
          have q148 := q148.symm
          subst q148
          refine lv_pop hx hb dL_law_769 rfl ?_
          refine lv_goto (tgt := 1357) hx hb dL_law_770 (of_decide_eq_true rfl) ?_
          obtain ⟨x149, ex149⟩ : ∃ y : Int32, y = x0 + 6 := ⟨_, rfl⟩
          exact by
           have tx149 : x149.toInt = x0.toInt + 6 := (jadd ex149 rfl jz_6 (by omega) (by omega)).trans (by omega)
           refine lv_iinc (v := x149) (lv' := [(3, .int x149), (2, .ref (ad 55)), (1, .ref (ad 0)), (0, .ref b)]) hx hb dL_law_1357 hl (k := 0) rfl (by rw [ex149]; rfl) (of_decide_eq_true rfl) rfl (fun ls hl => ?_)
           refine lv_goto (tgt := 18) hx hb dL_law_1360 (of_decide_eq_true rfl) ?_
           have I150 : jI2 σ136 := jI2_fr (congrFun (f138 2 (of_decide_eq_true rfl)) 0) (congrFun (f138 2 (of_decide_eq_true rfl)) 1) (congrFun (f138 2 (of_decide_eq_true rfl)) 2) (congrFun (f138 2 (of_decide_eq_true rfl)) 3) (f138 6 (of_decide_eq_true rfl)) I24
           have I151 : jI9 σ136 := jI9_fr ((congrFun (f138 9 (of_decide_eq_true rfl)) 0).trans (congrFun (f22 9 (of_decide_eq_true rfl)) 0)) ((f138 10 (of_decide_eq_true rfl)).trans (f22 10 (of_decide_eq_true rfl))) ((f138 11 (of_decide_eq_true rfl)).trans (f22 11 (of_decide_eq_true rfl))) hI9
           have I152 : jI12 σ136 := jI12_fr ((congrFun (f138 12 (of_decide_eq_true rfl)) 0).trans (congrFun (f22 12 (of_decide_eq_true rfl)) 0)) ((f138 13 (of_decide_eq_true rfl)).trans (f22 13 (of_decide_eq_true rfl))) hI12
           have I153 : jI16 σ136 := jI16_fr ((congrFun (f138 16 (of_decide_eq_true rfl)) 0).trans (congrFun (f22 16 (of_decide_eq_true rfl)) 0)) ((congrFun (f138 16 (of_decide_eq_true rfl)) 1).trans (congrFun (f22 16 (of_decide_eq_true rfl)) 1)) ((congrFun (f138 16 (of_decide_eq_true rfl)) 2).trans (congrFun (f22 16 (of_decide_eq_true rfl)) 2)) ((f138 17 (of_decide_eq_true rfl)).trans (f22 17 (of_decide_eq_true rfl))) hI16
           have I154 : jI18 σ136 := jI18_fr ((congrFun (f138 18 (of_decide_eq_true rfl)) 0).trans (congrFun (f22 18 (of_decide_eq_true rfl)) 0)) ((f138 19 (of_decide_eq_true rfl)).trans (f22 19 (of_decide_eq_true rfl))) hI18
           have I155 : jI22 σ136 := jI22_fr ((congrFun (f138 22 (of_decide_eq_true rfl)) 0).trans (congrFun (f22 22 (of_decide_eq_true rfl)) 0)) ((f138 23 (of_decide_eq_true rfl)).trans (f22 23 (of_decide_eq_true rfl))) hI22
           exact by
            have I156 : jI31 σ136 := jI31_fr ((congrFun (f138 31 (of_decide_eq_true rfl)) 8).trans (congrFun (f22 31 (of_decide_eq_true rfl)) 8)) ((f138 33 (of_decide_eq_true rfl)).trans (f22 33 (of_decide_eq_true rfl))) ((f138 36 (of_decide_eq_true rfl)).trans (f22 36 (of_decide_eq_true rfl))) hI31
            have I157 : jI38 σ136 := jI38_fr ((congrFun (f138 38 (of_decide_eq_true rfl)) 0).trans (congrFun (f22 38 (of_decide_eq_true rfl)) 0)) ((congrFun (f138 38 (of_decide_eq_true rfl)) 1).trans (congrFun (f22 38 (of_decide_eq_true rfl)) 1)) ((f138 39 (of_decide_eq_true rfl)).trans (f22 39 (of_decide_eq_true rfl))) hI38
            have I158 : jI43 σ136 := jI43_fr ((congrFun (f138 43 (of_decide_eq_true rfl)) 8).trans (congrFun (f22 43 (of_decide_eq_true rfl)) 8)) hI43
            have I159 : jI47 σ136 := jI47_fr ((congrFun (f138 47 (of_decide_eq_true rfl)) 0).trans (congrFun (f22 47 (of_decide_eq_true rfl)) 0)) ((f138 48 (of_decide_eq_true rfl)).trans (f22 48 (of_decide_eq_true rfl))) ((f138 49 (of_decide_eq_true rfl)).trans (f22 49 (of_decide_eq_true rfl))) hI47
            have I160 : jI50 σ136 := jI50_fr ((f138 52 (of_decide_eq_true rfl)).trans (f22 52 (of_decide_eq_true rfl))) hI50
            have I161 : jI102 σ136 := jI102_fr (f139 6 (of_decide_eq_true rfl)) (f138 60 (of_decide_eq_true rfl)) (f138 61 (of_decide_eq_true rfl)) I132
            have I162 : jI103 σ136 := jI103_fr ((f139 9 (of_decide_eq_true rfl)).trans (congrFun (f22 55 (of_decide_eq_true rfl)) 9)) hI103
            have I163 : jI104 σ136 := jI104_fr ((f139 10 (of_decide_eq_true rfl)).trans (congrFun (f22 55 (of_decide_eq_true rfl)) 10)) ((f139 12 (of_decide_eq_true rfl)).trans (congrFun (f22 55 (of_decide_eq_true rfl)) 12)) ((f139 13 (of_decide_eq_true rfl)).trans (congrFun (f22 55 (of_decide_eq_true rfl)) 13)) ((f138 62 (of_decide_eq_true rfl)).trans (f22 62 (of_decide_eq_true rfl))) ((f138 67 (of_decide_eq_true rfl)).trans (f22 67 (of_decide_eq_true rfl))) hI104
            have I164 : jI105 σ136 := jI105_fr ((f139 15 (of_decide_eq_true rfl)).trans (congrFun (f22 55 (of_decide_eq_true rfl)) 15)) ((f138 65 (of_decide_eq_true rfl)).trans (f22 65 (of_decide_eq_true rfl))) hI105
            have I165 : jI106 σ136 := jI106_fr ((f139 32 (of_decide_eq_true rfl)).trans (congrFun (f22 55 (of_decide_eq_true rfl)) 32)) ((f138 70 (of_decide_eq_true rfl)).trans (f22 70 (of_decide_eq_true rfl))) ((f138 71 (of_decide_eq_true rfl)).trans (f22 71 (of_decide_eq_true rfl))) ((f138 72 (of_decide_eq_true rfl)).trans (f22 72 (of_decide_eq_true rfl))) hI106
            have I166 : jI107 σ136 := jI107_fr ((f139 12 (of_decide_eq_true rfl)).trans (congrFun (f22 55 (of_decide_eq_true rfl)) 12)) ((f139 47 (of_decide_eq_true rfl)).trans (congrFun (f22 55 (of_decide_eq_true rfl)) 47)) ((f138 80 (of_decide_eq_true rfl)).trans (f22 80 (of_decide_eq_true rfl))) hI107
            have I167 : jI109 σ136 := jI109_fr ((f139 50 (of_decide_eq_true rfl)).trans (congrFun (f22 55 (of_decide_eq_true rfl)) 50)) hI109
            have I168 : jI110 σ136 := jI110_fr ((f138 86 (of_decide_eq_true rfl)).trans (f22 86 (of_decide_eq_true rfl))) ((f138 87 (of_decide_eq_true rfl)).trans (f22 87 (of_decide_eq_true rfl))) hI110
            have I169 : jI111 σ136 := jI111_fr ((f138 79 (of_decide_eq_true rfl)).trans (f22 79 (of_decide_eq_true rfl))) hI111
            have I170 : jI119 σ136 := jI119_fr ((f138 68 (of_decide_eq_true rfl)).trans (f22 68 (of_decide_eq_true rfl))) hI119
            have p171 : jKept σ136 := jKept.fr ((f138 75 (of_decide_eq_true rfl)).trans (f22 75 (of_decide_eq_true rfl))) ((f138 76 (of_decide_eq_true rfl)).trans (f22 76 (of_decide_eq_true rfl))) ((f138 77 (of_decide_eq_true rfl)).trans (f22 77 (of_decide_eq_true rfl))) hs_jKept
            have p172 : jBook σ136 := jBook.fr ((f139 47 (of_decide_eq_true rfl)).trans (congrFun (f22 55 (of_decide_eq_true rfl)) 47)) ((f139 10 (of_decide_eq_true rfl)).trans (congrFun (f22 55 (of_decide_eq_true rfl)) 10)) ((f138 81 (of_decide_eq_true rfl)).trans (f22 81 (of_decide_eq_true rfl))) hs_jBook
            have z173 : (σ136 9 0).toInt = (σ 9 0).toInt := (congrArg Int32.toInt (show σ136 9 0 = (σ 9 0) from ((congrFun (f138 9 (of_decide_eq_true rfl)) 0).trans (congrFun (f22 9 (of_decide_eq_true rfl)) 0))))
            have z174 : (σ136 55 15).toInt = (σ 55 15).toInt := (congrArg Int32.toInt (show σ136 55 15 = (σ 55 15) from ((f139 15 (of_decide_eq_true rfl)).trans (congrFun (f22 55 (of_decide_eq_true rfl)) 15))))
            have z175 : (σ136 16 0).toInt = (σ 16 0).toInt := (congrArg Int32.toInt (show σ136 16 0 = (σ 16 0) from ((congrFun (f138 16 (of_decide_eq_true rfl)) 0).trans (congrFun (f22 16 (of_decide_eq_true rfl)) 0))))
            have z176 : (σ136 55 10).toInt = (σ 55 10).toInt := (congrArg Int32.toInt (show σ136 55 10 = (σ 55 10) from ((f139 10 (of_decide_eq_true rfl)).trans (congrFun (f22 55 (of_decide_eq_true rfl)) 10))))
            have z177 : (σ136 16 1).toInt = (σ 16 1).toInt := (congrArg Int32.toInt (show σ136 16 1 = (σ 16 1) from ((congrFun (f138 16 (of_decide_eq_true rfl)) 1).trans (congrFun (f22 16 (of_decide_eq_true rfl)) 1))))
            have z178 : (σ136 55 12).toInt = (σ 55 12).toInt := (congrArg Int32.toInt (show σ136 55 12 = (σ 55 12) from ((f139 12 (of_decide_eq_true rfl)).trans (congrFun (f22 55 (of_decide_eq_true rfl)) 12))))
            have z179 : (σ136 16 2).toInt = (σ 16 2).toInt := (congrArg Int32.toInt (show σ136 16 2 = (σ 16 2) from ((congrFun (f138 16 (of_decide_eq_true rfl)) 2).trans (congrFun (f22 16 (of_decide_eq_true rfl)) 2))))
            have z180 : (σ136 55 13).toInt = (σ 55 13).toInt := (congrArg Int32.toInt (show σ136 55 13 = (σ 55 13) from ((f139 13 (of_decide_eq_true rfl)).trans (congrFun (f22 55 (of_decide_eq_true rfl)) 13))))
            exact by exact ih x149 σ136 τ _ _ ls (by have h9 := tx149; omega) ⟨I150, I151, I152, I153, I154, I155, I156, I157, I158, I159, I160, I140, I161, I162, I163, I164, I165, I166, I167, I168, I169, I170, p171, p172, (by omega), (by omega), (by omega), (by omega), (show jTp (σ136 10) (σ136 63) (σ136 55 15).toInt by rw [show σ136 10 = σ 10 from ((f138 10 (of_decide_eq_true rfl)).trans (f22 10 (of_decide_eq_true rfl))), show σ136 63 = σ 63 from ((f138 63 (of_decide_eq_true rfl)).trans (f22 63 (of_decide_eq_true rfl)))]; exact hr0.le (by omega)), (show jSo (σ136 17) (σ136 62) (σ136 16 0).toInt by rw [show σ136 17 = σ 17 from ((f138 17 (of_decide_eq_true rfl)).trans (f22 17 (of_decide_eq_true rfl))), show σ136 62 = σ 62 from ((f138 62 (of_decide_eq_true rfl)).trans (f22 62 (of_decide_eq_true rfl))), show (σ136 16 0).toInt = (σ 16 0).toInt from by omega]; exact hr1)⟩ hP hS (lv_sub hl [0, 1, 2, 3] rfl)
        · obtain ⟨q188, k181, k182, k183, k184, k185, k186, k187⟩ := h143
          refine lv_pop hx hb dL_law_769 rfl ?_
          refine lv_goto (tgt := 1357) hx hb dL_law_770 (of_decide_eq_true rfl) ?_
          obtain ⟨x189, ex189⟩ : ∃ y : Int32, y = x0 + 6 := ⟨_, rfl⟩
          exact by
           have tx189 : x189.toInt = x0.toInt + 6 := (jadd ex189 rfl jz_6 (by omega) (by omega)).trans (by omega)
           refine lv_iinc (v := x189) (lv' := [(3, .int x189), (2, .ref (ad 55)), (1, .ref (ad 0)), (0, .ref b)]) hx hb dL_law_1357 hl (k := 0) rfl (by rw [ex189]; rfl) (of_decide_eq_true rfl) rfl (fun ls hl => ?_)
           refine lv_goto (tgt := 18) hx hb dL_law_1360 (of_decide_eq_true rfl) ?_
           have I190 : jI2 σ136 := jI2_fr (congrFun (f138 2 (of_decide_eq_true rfl)) 0) (congrFun (f138 2 (of_decide_eq_true rfl)) 1) (congrFun (f138 2 (of_decide_eq_true rfl)) 2) (congrFun (f138 2 (of_decide_eq_true rfl)) 3) (f138 6 (of_decide_eq_true rfl)) I24
           have I191 : jI9 σ136 := jI9_fr ((congrFun (f138 9 (of_decide_eq_true rfl)) 0).trans (congrFun (f22 9 (of_decide_eq_true rfl)) 0)) ((f138 10 (of_decide_eq_true rfl)).trans (f22 10 (of_decide_eq_true rfl))) ((f138 11 (of_decide_eq_true rfl)).trans (f22 11 (of_decide_eq_true rfl))) hI9
           have I192 : jI12 σ136 := jI12_fr ((congrFun (f138 12 (of_decide_eq_true rfl)) 0).trans (congrFun (f22 12 (of_decide_eq_true rfl)) 0)) ((f138 13 (of_decide_eq_true rfl)).trans (f22 13 (of_decide_eq_true rfl))) hI12
           have I193 : jI16 σ136 := jI16_fr ((congrFun (f138 16 (of_decide_eq_true rfl)) 0).trans (congrFun (f22 16 (of_decide_eq_true rfl)) 0)) ((congrFun (f138 16 (of_decide_eq_true rfl)) 1).trans (congrFun (f22 16 (of_decide_eq_true rfl)) 1)) ((congrFun (f138 16 (of_decide_eq_true rfl)) 2).trans (congrFun (f22 16 (of_decide_eq_true rfl)) 2)) ((f138 17 (of_decide_eq_true rfl)).trans (f22 17 (of_decide_eq_true rfl))) hI16
           have I194 : jI18 σ136 := jI18_fr ((congrFun (f138 18 (of_decide_eq_true rfl)) 0).trans (congrFun (f22 18 (of_decide_eq_true rfl)) 0)) ((f138 19 (of_decide_eq_true rfl)).trans (f22 19 (of_decide_eq_true rfl))) hI18
           have I195 : jI22 σ136 := jI22_fr ((congrFun (f138 22 (of_decide_eq_true rfl)) 0).trans (congrFun (f22 22 (of_decide_eq_true rfl)) 0)) ((f138 23 (of_decide_eq_true rfl)).trans (f22 23 (of_decide_eq_true rfl))) hI22
           exact by
            have I196 : jI31 σ136 := jI31_fr ((congrFun (f138 31 (of_decide_eq_true rfl)) 8).trans (congrFun (f22 31 (of_decide_eq_true rfl)) 8)) ((f138 33 (of_decide_eq_true rfl)).trans (f22 33 (of_decide_eq_true rfl))) ((f138 36 (of_decide_eq_true rfl)).trans (f22 36 (of_decide_eq_true rfl))) hI31
            have I197 : jI38 σ136 := jI38_fr ((congrFun (f138 38 (of_decide_eq_true rfl)) 0).trans (congrFun (f22 38 (of_decide_eq_true rfl)) 0)) ((congrFun (f138 38 (of_decide_eq_true rfl)) 1).trans (congrFun (f22 38 (of_decide_eq_true rfl)) 1)) ((f138 39 (of_decide_eq_true rfl)).trans (f22 39 (of_decide_eq_true rfl))) hI38
            have I198 : jI43 σ136 := jI43_fr ((congrFun (f138 43 (of_decide_eq_true rfl)) 8).trans (congrFun (f22 43 (of_decide_eq_true rfl)) 8)) hI43
            have I199 : jI47 σ136 := jI47_fr ((congrFun (f138 47 (of_decide_eq_true rfl)) 0).trans (congrFun (f22 47 (of_decide_eq_true rfl)) 0)) ((f138 48 (of_decide_eq_true rfl)).trans (f22 48 (of_decide_eq_true rfl))) ((f138 49 (of_decide_eq_true rfl)).trans (f22 49 (of_decide_eq_true rfl))) hI47
            have I200 : jI50 σ136 := jI50_fr ((f138 52 (of_decide_eq_true rfl)).trans (f22 52 (of_decide_eq_true rfl))) hI50
            have I201 : jI102 σ136 := jI102_fr (f139 6 (of_decide_eq_true rfl)) (f138 60 (of_decide_eq_true rfl)) (f138 61 (of_decide_eq_true rfl)) I132
            have I202 : jI103 σ136 := jI103_fr ((f139 9 (of_decide_eq_true rfl)).trans (congrFun (f22 55 (of_decide_eq_true rfl)) 9)) hI103
            have I203 : jI104 σ136 := jI104_fr ((f139 10 (of_decide_eq_true rfl)).trans (congrFun (f22 55 (of_decide_eq_true rfl)) 10)) ((f139 12 (of_decide_eq_true rfl)).trans (congrFun (f22 55 (of_decide_eq_true rfl)) 12)) ((f139 13 (of_decide_eq_true rfl)).trans (congrFun (f22 55 (of_decide_eq_true rfl)) 13)) ((f138 62 (of_decide_eq_true rfl)).trans (f22 62 (of_decide_eq_true rfl))) ((f138 67 (of_decide_eq_true rfl)).trans (f22 67 (of_decide_eq_true rfl))) hI104
            have I204 : jI105 σ136 := jI105_fr ((f139 15 (of_decide_eq_true rfl)).trans (congrFun (f22 55 (of_decide_eq_true rfl)) 15)) ((f138 65 (of_decide_eq_true rfl)).trans (f22 65 (of_decide_eq_true rfl))) hI105
            have I205 : jI106 σ136 := jI106_fr ((f139 32 (of_decide_eq_true rfl)).trans (congrFun (f22 55 (of_decide_eq_true rfl)) 32)) ((f138 70 (of_decide_eq_true rfl)).trans (f22 70 (of_decide_eq_true rfl))) ((f138 71 (of_decide_eq_true rfl)).trans (f22 71 (of_decide_eq_true rfl))) ((f138 72 (of_decide_eq_true rfl)).trans (f22 72 (of_decide_eq_true rfl))) hI106
            have I206 : jI107 σ136 := jI107_fr ((f139 12 (of_decide_eq_true rfl)).trans (congrFun (f22 55 (of_decide_eq_true rfl)) 12)) ((f139 47 (of_decide_eq_true rfl)).trans (congrFun (f22 55 (of_decide_eq_true rfl)) 47)) ((f138 80 (of_decide_eq_true rfl)).trans (f22 80 (of_decide_eq_true rfl))) hI107
            have I207 : jI109 σ136 := jI109_fr ((f139 50 (of_decide_eq_true rfl)).trans (congrFun (f22 55 (of_decide_eq_true rfl)) 50)) hI109
            have I208 : jI110 σ136 := jI110_fr ((f138 86 (of_decide_eq_true rfl)).trans (f22 86 (of_decide_eq_true rfl))) ((f138 87 (of_decide_eq_true rfl)).trans (f22 87 (of_decide_eq_true rfl))) hI110
            have I209 : jI111 σ136 := jI111_fr ((f138 79 (of_decide_eq_true rfl)).trans (f22 79 (of_decide_eq_true rfl))) hI111
            have I210 : jI119 σ136 := jI119_fr ((f138 68 (of_decide_eq_true rfl)).trans (f22 68 (of_decide_eq_true rfl))) hI119
            have p211 : jKept σ136 := jKept.fr ((f138 75 (of_decide_eq_true rfl)).trans (f22 75 (of_decide_eq_true rfl))) ((f138 76 (of_decide_eq_true rfl)).trans (f22 76 (of_decide_eq_true rfl))) ((f138 77 (of_decide_eq_true rfl)).trans (f22 77 (of_decide_eq_true rfl))) hs_jKept
            have p212 : jBook σ136 := jBook.fr ((f139 47 (of_decide_eq_true rfl)).trans (congrFun (f22 55 (of_decide_eq_true rfl)) 47)) ((f139 10 (of_decide_eq_true rfl)).trans (congrFun (f22 55 (of_decide_eq_true rfl)) 10)) ((f138 81 (of_decide_eq_true rfl)).trans (f22 81 (of_decide_eq_true rfl))) hs_jBook
            have z213 : (σ136 9 0).toInt = (σ 9 0).toInt := (congrArg Int32.toInt (show σ136 9 0 = (σ 9 0) from ((congrFun (f138 9 (of_decide_eq_true rfl)) 0).trans (congrFun (f22 9 (of_decide_eq_true rfl)) 0))))
            have z214 : (σ136 55 15).toInt = (σ 55 15).toInt := (congrArg Int32.toInt (show σ136 55 15 = (σ 55 15) from ((f139 15 (of_decide_eq_true rfl)).trans (congrFun (f22 55 (of_decide_eq_true rfl)) 15))))
            have z215 : (σ136 16 0).toInt = (σ 16 0).toInt := (congrArg Int32.toInt (show σ136 16 0 = (σ 16 0) from ((congrFun (f138 16 (of_decide_eq_true rfl)) 0).trans (congrFun (f22 16 (of_decide_eq_true rfl)) 0))))
            have z216 : (σ136 55 10).toInt = (σ 55 10).toInt := (congrArg Int32.toInt (show σ136 55 10 = (σ 55 10) from ((f139 10 (of_decide_eq_true rfl)).trans (congrFun (f22 55 (of_decide_eq_true rfl)) 10))))
            have z217 : (σ136 16 1).toInt = (σ 16 1).toInt := (congrArg Int32.toInt (show σ136 16 1 = (σ 16 1) from ((congrFun (f138 16 (of_decide_eq_true rfl)) 1).trans (congrFun (f22 16 (of_decide_eq_true rfl)) 1))))
            have z218 : (σ136 55 12).toInt = (σ 55 12).toInt := (congrArg Int32.toInt (show σ136 55 12 = (σ 55 12) from ((f139 12 (of_decide_eq_true rfl)).trans (congrFun (f22 55 (of_decide_eq_true rfl)) 12))))
            have z219 : (σ136 16 2).toInt = (σ 16 2).toInt := (congrArg Int32.toInt (show σ136 16 2 = (σ 16 2) from ((congrFun (f138 16 (of_decide_eq_true rfl)) 2).trans (congrFun (f22 16 (of_decide_eq_true rfl)) 2))))
            have z220 : (σ136 55 13).toInt = (σ 55 13).toInt := (congrArg Int32.toInt (show σ136 55 13 = (σ 55 13) from ((f139 13 (of_decide_eq_true rfl)).trans (congrFun (f22 55 (of_decide_eq_true rfl)) 13))))
            exact by exact ih x189 σ136 τ _ _ ls (by have h9 := tx189; omega) ⟨I190, I191, I192, I193, I194, I195, I196, I197, I198, I199, I200, I140, I201, I202, I203, I204, I205, I206, I207, I208, I209, I210, p211, p212, (by omega), (by omega), (by omega), (by omega), (show jTp (σ136 10) (σ136 63) (σ136 55 15).toInt by rw [show σ136 10 = σ 10 from ((f138 10 (of_decide_eq_true rfl)).trans (f22 10 (of_decide_eq_true rfl))), show σ136 63 = σ 63 from ((f138 63 (of_decide_eq_true rfl)).trans (f22 63 (of_decide_eq_true rfl)))]; exact hr0.le (by omega)), (show jSo (σ136 17) (σ136 62) (σ136 16 0).toInt by rw [show σ136 17 = σ 17 from ((f138 17 (of_decide_eq_true rfl)).trans (f22 17 (of_decide_eq_true rfl))), show σ136 62 = σ 62 from ((f138 62 (of_decide_eq_true rfl)).trans (f22 62 (of_decide_eq_true rfl))), show (σ136 16 0).toInt = (σ 16 0).toInt from by omega]; exact hr1)⟩ hP hS (lv_sub hl [0, 1, 2, 3] rfl)
