set_option maxHeartbeats 4000000 in
set_option maxRecDepth 100000 in
theorem law_case_0 {p : Program} {e : Env} {s : State} {m : MethodId} {below : List Frame} {meth : Method} {c : Code} (l : Launch) {b L : Nat} {xs : Nat → Int32} {D : va_G} {cI cL : ClassId} {ad zz : Nat → Nat} (C0 : lw_At p s m meth c b L xs) (hJ : jD ad) (hA : ∀ q, jA ad q → s.heap.size ≤ q) (hK : jK D cI cL s) (hZ : jZ zz (fun q : Nat => s.heap.size ≤ q) s s.heap) {x0 : Int32} (hx0 : 0 ≤ x0.toInt) (hxL : x0.toInt + 6 ≤ (L : Int)) (hL : L ≤ 384) {σ : Nat → Nat → Int32} {τ : Nat → Nat → Int64} {H : Heap} {locs : List Loc} (hS : va_S (fun q : Nat => s.heap.size ≤ q) s.heap H locs) {ls : Array Slot} (hAll : jAll σ τ) (hP : jH D cI cL ad σ τ H) (hl : lv_has ls 4 [(3, .int x0), (2, .ref (ad 55)), (1, .ref (ad 0)), (0, .ref b)]) (ih : ∀ (x1 : Int32) (σ : Nat → Nat → Int32) (τ : Nat → Nat → Int64) (H : Heap) (locs : List Loc) (ls : Array Slot), x1.toInt = x0.toInt + 6 → jAll σ τ → jH D cI cL ad σ τ H → va_S (fun q : Nat => s.heap.size ≤ q) s.heap H locs → lv_has ls 4 [(3, .int x1), (2, .ref (ad 55)), (1, .ref (ad 0)), (0, .ref b)] → W p l e room_1 s m #[Value.ref b] below meth c H locs 90 348600 (lw_Z below #[Value.ref b] s) (F0 m 18 ls [])) : W p l e room_1 s m #[Value.ref b] below meth c H locs 90 348600 (lw_Z below #[Value.ref b] s) (F0 m 196 ls []) := by
  obtain ⟨hx, hb, hr, hml, hown, hts0, hX, hbl, hlocks, hgv⟩ := C0
  have hts : ∀ w ∈ wsL_law, w.before #[Value.ref b] s = true := fun w h => hts0 w (wsL_law_in w h)
  have hbA : ¬ (fun q : Nat => s.heap.size ≤ q) b := Nat.not_le.mpr hbl
  have hown : s.vm.findClass RL = some m.cls := hown
  obtain ⟨hI2, hI9, hI12, hI16, hI18, hI22, hI31, hI38, hI43, hI47, hI50, hI101, hI102, hI103, hI104, hI105, hI106, hI107, hI109, hI110, hI111, hI119, hs_jKept, hs_jBook, ht0, ht1, ht2, ht3, ht4, ht5, ht6, ht7, ht8, ht9, ht10, hr0, hr1, hr2, hr3, hr4, hr5, hr6, hr7⟩ := hAll
  have hL9 : (L : Int) ≤ 384 := by omega
  obtain ⟨i1, i2, i3, i4, i5, w6⟩ : (0 ≤ (σ 2 0).toInt ∧ (σ 2 0).toInt ≤ 4) ∧ (0 ≤ (σ 2 1).toInt ∧ (σ 2 1).toInt ≤ 3) ∧ (0 ≤ (σ 2 2).toInt) ∧ (0 ≤ (σ 2 3).toInt) ∧ ((σ 2 2).toInt + (σ 2 3).toInt ≤ 40) ∧ (∀ k : Nat, k < 40 → 0 ≤ (σ 6 k).toInt ∧ (σ 6 k).toInt ≤ 67) := id hI2
  obtain ⟨i7, w8, w9⟩ : (0 ≤ (σ 9 0).toInt ∧ (σ 9 0).toInt ≤ 80) ∧ (∀ k : Nat, k < 80 → 0 ≤ (σ 10 k).toInt ∧ (σ 10 k).toInt ≤ 255) ∧ (∀ k : Nat, k < 8 → 0 ≤ (σ 11 k).toInt ∧ (σ 11 k).toInt ≤ 3) := id hI9
  obtain ⟨i10, i11, i12, w13⟩ : (1 ≤ (σ 16 0).toInt ∧ (σ 16 0).toInt ≤ 8) ∧ (1 ≤ (σ 16 1).toInt ∧ (σ 16 1).toInt ≤ 12) ∧ (0 ≤ (σ 16 2).toInt ∧ (σ 16 2).toInt ≤ 999) ∧ (∀ k : Nat, k < 8 → 0 ≤ (σ 17 k).toInt ∧ (σ 17 k).toInt ≤ 3) := id hI16
  obtain ⟨i14, i15, w16⟩ : (0 ≤ (σ 38 0).toInt ∧ (σ 38 0).toInt ≤ 20) ∧ (0 ≤ (σ 38 1).toInt ∧ (σ 38 1).toInt ≤ 1000) ∧ (∀ k : Nat, k < 20 → 0 ≤ (σ 39 k).toInt ∧ (σ 39 k).toInt ≤ 6) := id hI38
  obtain ⟨i17, w18, w19⟩ : (0 ≤ (σ 47 0).toInt ∧ (σ 47 0).toInt ≤ 12) ∧ (∀ k : Nat, k < 12 → 0 ≤ (σ 48 k).toInt ∧ (σ 48 k).toInt ≤ 3) ∧ (∀ k : Nat, k < 12 → 0 ≤ (σ 49 k).toInt ∧ (σ 49 k).toInt ≤ 1) := id hI47
  have w20 : ∀ k : Nat, k < 6 → 0 ≤ (σ 52 k).toInt ∧ (σ 52 k).toInt ≤ 60 := hI50
  obtain ⟨i21, i22, i23, w24, w25, w26, w27⟩ : (0 ≤ (σ 55 5).toInt) ∧ ((σ 55 5).toInt ≤ (σ 55 4).toInt) ∧ ((σ 55 4).toInt ≤ 40) ∧ (∀ k : Nat, k < 68 → (-200) ≤ (σ 56 k).toInt ∧ (σ 56 k).toInt ≤ 500) ∧ (∀ k : Nat, k < 40 → 0 ≤ (σ 57 k).toInt ∧ (σ 57 k).toInt ≤ 67) ∧ (∀ k : Nat, k < 40 → (-200) ≤ (σ 58 k).toInt ∧ (σ 58 k).toInt ≤ 500) ∧ (∀ k : Nat, k < 40 → (-200) ≤ (σ 59 k).toInt ∧ (σ 59 k).toInt ≤ 500) := id hI101
  obtain ⟨i28, w29, w30⟩ : (0 ≤ (σ 55 6).toInt ∧ (σ 55 6).toInt ≤ 4) ∧ (∀ k : Nat, k < 4 → 0 ≤ (σ 60 k).toInt ∧ (σ 60 k).toInt ≤ 50) ∧ (∀ k : Nat, k < 4 → 0 ≤ (σ 61 k).toInt ∧ (σ 61 k).toInt ≤ 20) := id hI102
  obtain ⟨i31, i32, i33, w34, w35⟩ : (1 ≤ (σ 55 10).toInt ∧ (σ 55 10).toInt ≤ 8) ∧ (1 ≤ (σ 55 12).toInt ∧ (σ 55 12).toInt ≤ 12) ∧ (0 ≤ (σ 55 13).toInt ∧ (σ 55 13).toInt ≤ 999) ∧ (∀ k : Nat, k < 8 → 0 ≤ (σ 62 k).toInt ∧ (σ 62 k).toInt ≤ 3) ∧ (∀ k : Nat, k < 8 → 0 ≤ (σ 67 k).toInt ∧ (σ 67 k).toInt ≤ 3) := id hI104
  obtain ⟨i36, w37⟩ : (0 ≤ (σ 55 15).toInt ∧ (σ 55 15).toInt ≤ 80) ∧ (∀ k : Nat, k < 2 → (-1) ≤ (σ 65 k).toInt ∧ (σ 65 k).toInt ≤ 80) := id hI105
  obtain ⟨i38, w39, w40, w41⟩ : (0 ≤ (σ 55 32).toInt ∧ (σ 55 32).toInt ≤ 20) ∧ (∀ k : Nat, k < 20 → 0 ≤ (σ 70 k).toInt ∧ (σ 70 k).toInt ≤ 6) ∧ (∀ k : Nat, k < 20 → 0 ≤ (σ 71 k).toInt ∧ (σ 71 k).toInt ≤ 8) ∧ (∀ k : Nat, k < 160 → 0 ≤ (σ 72 k).toInt ∧ (σ 72 k).toInt ≤ 3) := id hI106
  obtain ⟨i42, i43, w44⟩ : (0 ≤ (σ 55 47).toInt ∧ (σ 55 47).toInt ≤ 12) ∧ ((σ 55 47).toInt ≤ (σ 55 12).toInt) ∧ (∀ k : Nat, k < 12 → 0 ≤ (σ 80 k).toInt ∧ (σ 80 k).toInt ≤ 3) := id hI107
  refine lv_aload_n hx hb dL_law_196 rfl (lv_at hl 2 rfl) ?_
  refine lv_aload_n hx hb dL_law_197 rfl (lv_at hl 3 rfl) ?_
  refine lv_iload_n hx hb dL_law_198 rfl (lv_at hl 0 rfl) ?_
  refine lv_iconst (v := 1) hx hb dL_law_199 (by decide) ?_
  have g45 := jrg (rfl : x0.toInt = x0.toInt)
  refine lv_iadd hx hb dL_law_200 ?_
  refine lv_topi (fun x46 ex46 => ?_)
  have tx46 : x46.toInt = x0.toInt + 1 := (jadd ex46 rfl jz_1 (by omega) (by omega)).trans (by omega)
  refine va_sld hx hb hX hbl hbA hS (jin tx46 (by omega) (by omega)) dL_law_201 ?_
  have g47 := jrg (rfl : (xs x46.toNatClampNeg).toInt = (xs x46.toNatClampNeg).toInt)
  refine lv_aload_n hx hb dL_law_202 rfl (lv_at hl 3 rfl) ?_
  refine lv_iload_n hx hb dL_law_203 rfl (lv_at hl 0 rfl) ?_
  refine lv_iconst (v := 2) hx hb dL_law_204 (by decide) ?_
  refine lv_iadd hx hb dL_law_205 ?_
  refine lv_topi (fun x48 ex48 => ?_)
  have tx48 : x48.toInt = x0.toInt + 2 := (jadd ex48 rfl jz_2 (by omega) (by omega)).trans (by omega)
  refine va_sld hx hb hX hbl hbA hS (jin tx48 (by omega) (by omega)) dL_law_206 ?_
  have g49 := jrg (rfl : (xs x48.toNatClampNeg).toInt = (xs x48.toNatClampNeg).toInt)
  refine lv_aload_n hx hb dL_law_207 rfl (lv_at hl 3 rfl) ?_
  refine lv_iload_n hx hb dL_law_208 rfl (lv_at hl 0 rfl) ?_
  refine lv_iconst (v := 3) hx hb dL_law_209 (by decide) ?_
  refine lv_iadd hx hb dL_law_210 ?_
  refine lv_topi (fun x50 ex50 => ?_)
  have tx50 : x50.toInt = x0.toInt + 3 := (jadd ex50 rfl jz_3 (by omega) (by omega)).trans (by omega)
  refine va_sld hx hb hX hbl hbA hS (jin tx50 (by omega) (by omega)) dL_law_211 ?_
  have g51 := jrg (rfl : (xs x50.toNatClampNeg).toInt = (xs x50.toNatClampNeg).toInt)
  refine jcallV (As := [.int (xs x46.toNatClampNeg), .int (xs x48.toNatClampNeg), .int (xs x50.toNatClampNeg)]) (rest := []) ⟨hx, hb, hml, hown, hts⟩ hK hP hA hS hZ (c_X11_bowler l D cI cL ad zz hJ σ τ (xs x46.toNatClampNeg) ((xs x46.toNatClampNeg).toInt) rfl (xs x48.toNatClampNeg) ((xs x48.toNatClampNeg).toInt) rfl (xs x50.toNatClampNeg) ((xs x50.toNatClampNeg).toInt) rfl hI2) cw_RL_13 (jc_0 cI cL ad σ τ) rfl ⟨Nat.le_of_ble_eq_true rfl, Nat.le_of_ble_eq_true rfl⟩ rfl rfl rfl hl.1 rfl (Nat.le_of_ble_eq_true rfl) dL_law_212 ⟨Nat.le_of_ble_eq_true rfl, Nat.le_of_ble_eq_true rfl⟩ (fun r53 σ52 τ52 H locs h52 hP hS => ?_)
  obtain ⟨rfl, f54, f55, I56, h52⟩ := h52
  obtain ⟨i58, i59, i60, i61, i62, w63⟩ : (0 ≤ (σ52 2 0).toInt ∧ (σ52 2 0).toInt ≤ 4) ∧ (0 ≤ (σ52 2 1).toInt ∧ (σ52 2 1).toInt ≤ 3) ∧ (0 ≤ (σ52 2 2).toInt) ∧ (0 ≤ (σ52 2 3).toInt) ∧ ((σ52 2 2).toInt + (σ52 2 3).toInt ≤ 40) ∧ (∀ k : Nat, k < 40 → 0 ≤ (σ52 6 k).toInt ∧ (σ52 6 k).toInt ≤ 67) := id I56
  have z64 : (σ52 2 1).toInt = (σ 2 1).toInt := (congrArg Int32.toInt (show σ52 2 1 = (σ 2 1) from (f55 1 (by decide))))
  have z65 : (σ52 2 2).toInt = (σ 2 2).toInt := (congrArg Int32.toInt (show σ52 2 2 = (σ 2 2) from (f55 2 (by decide))))
  have z66 : (σ52 2 3).toInt = (σ 2 3).toInt := (congrArg Int32.toInt (show σ52 2 3 = (σ 2 3) from (f55 3 (by decide))))
  rcases h52 with h67 | h68 | h69
  · obtain ⟨q73, k70, k71, k72⟩ := h67
    have q73 := q73.symm
    subst q73
    refine lv_pop hx hb dL_law_215 rfl ?_
    refine lv_aload_n hx hb dL_law_216 rfl (lv_at hl 1 rfl) ?_
    refine lv_aload_n hx hb dL_law_217 rfl (lv_at hl 3 rfl) ?_
    refine lv_iload_n hx hb dL_law_218 rfl (lv_at hl 0 rfl) ?_
    refine lv_iconst (v := 1) hx hb dL_law_219 (by decide) ?_
    refine lv_iadd hx hb dL_law_220 ?_
    refine jtopr ex46.symm ?_
    refine va_sld hx hb hX hbl hbA hS (jin tx46 (by omega) (by omega)) dL_law_221 ?_
    refine lv_aload_n hx hb dL_law_222 rfl (lv_at hl 3 rfl) ?_
    refine lv_iload_n hx hb dL_law_223 rfl (lv_at hl 0 rfl) ?_
    refine lv_iconst (v := 2) hx hb dL_law_224 (by decide) ?_
    refine lv_iadd hx hb dL_law_225 ?_
    refine jtopr ex48.symm ?_
    refine va_sld hx hb hX hbl hbA hS (jin tx48 (by omega) (by omega)) dL_law_226 ?_
    refine lv_aload_n hx hb dL_law_227 rfl (lv_at hl 3 rfl) ?_
    refine lv_iload_n hx hb dL_law_228 rfl (lv_at hl 0 rfl) ?_
    refine lv_iconst (v := 3) hx hb dL_law_229 (by decide) ?_
    refine lv_iadd hx hb dL_law_230 ?_
    refine jtopr ex50.symm ?_
    refine va_sld hx hb hX hbl hbA hS (jin tx50 (by omega) (by omega)) dL_law_231 ?_
    have I74 : jI101 σ52 := jI101_fr (congrFun (f54 55 (by decide)) 4) (congrFun (f54 55 (by decide)) 5) (f54 56 (by decide)) (f54 57 (by decide)) (f54 58 (by decide)) (f54 59 (by decide)) hI101
    have I75 : jI102 σ52 := jI102_fr (congrFun (f54 55 (by decide)) 6) (f54 60 (by decide)) (f54 61 (by decide)) hI102
    have z76 : (σ52 55 6).toInt = (σ 55 6).toInt := (congrArg Int32.toInt (show σ52 55 6 = (σ 55 6) from (congrFun (f54 55 (by decide)) 6)))
    refine jcallV (As := [.int (xs x46.toNatClampNeg), .int (xs x48.toNatClampNeg), .int (xs x50.toNatClampNeg)]) (rest := []) ⟨hx, hb, hml, hown, hts⟩ hK hP hA hS hZ (c_X12_bowler l D cI cL ad zz hJ σ52 τ (xs x46.toNatClampNeg) ((xs x46.toNatClampNeg).toInt) rfl (xs x48.toNatClampNeg) ((xs x48.toNatClampNeg).toInt) rfl (xs x50.toNatClampNeg) ((xs x50.toNatClampNeg).toInt) rfl I74 I75) cw_RL_17 (jc_55 cI cL ad σ52 τ) rfl ⟨Nat.le_of_ble_eq_true rfl, Nat.le_of_ble_eq_true rfl⟩ rfl rfl rfl hl.1 rfl (Nat.le_of_ble_eq_true rfl) dL_law_232 ⟨Nat.le_of_ble_eq_true rfl, Nat.le_of_ble_eq_true rfl⟩ (fun r78 σ77 τ77 H locs h77 hP hS => ?_)
    obtain ⟨rfl, f79, f80, I81, I82, h77⟩ := h77
    obtain ⟨i84, i85, i86, w87, w88, w89, w90⟩ : (0 ≤ (σ77 55 5).toInt) ∧ ((σ77 55 5).toInt ≤ (σ77 55 4).toInt) ∧ ((σ77 55 4).toInt ≤ 40) ∧ (∀ k : Nat, k < 68 → (-200) ≤ (σ77 56 k).toInt ∧ (σ77 56 k).toInt ≤ 500) ∧ (∀ k : Nat, k < 40 → 0 ≤ (σ77 57 k).toInt ∧ (σ77 57 k).toInt ≤ 67) ∧ (∀ k : Nat, k < 40 → (-200) ≤ (σ77 58 k).toInt ∧ (σ77 58 k).toInt ≤ 500) ∧ (∀ k : Nat, k < 40 → (-200) ≤ (σ77 59 k).toInt ∧ (σ77 59 k).toInt ≤ 500) := id I81
    obtain ⟨i91, w92, w93⟩ : (0 ≤ (σ77 55 6).toInt ∧ (σ77 55 6).toInt ≤ 4) ∧ (∀ k : Nat, k < 4 → 0 ≤ (σ77 60 k).toInt ∧ (σ77 60 k).toInt ≤ 50) ∧ (∀ k : Nat, k < 4 → 0 ≤ (σ77 61 k).toInt ∧ (σ77 61 k).toInt ≤ 20) := id I82
    have z94 : (σ77 55 5).toInt = (σ 55 5).toInt := (congrArg Int32.toInt (show σ77 55 5 = (σ 55 5) from ((f80 5 (by decide)).trans (congrFun (f54 55 (by decide)) 5))))
    have z95 : (σ77 55 4).toInt = (σ 55 4).toInt := (congrArg Int32.toInt (show σ77 55 4 = (σ 55 4) from ((f80 4 (by decide)).trans (congrFun (f54 55 (by decide)) 4))))
    rcases h77 with h96 | h97 | h98
    · obtain ⟨q102, k99, k100, k101⟩ := h96
      have q102 := q102.symm
      subst q102
      refine lv_pop hx hb dL_law_235 rfl ?_
      refine lv_goto (tgt := 1357) hx hb dL_law_236 (by decide) ?_
      obtain ⟨x103, ex103⟩ : ∃ y : Int32, y = x0 + 6 := ⟨_, rfl⟩
      have tx103 : x103.toInt = x0.toInt + 6 := (jadd ex103 rfl jz_6 (by omega) (by omega)).trans (by omega)
      refine lv_iinc (v := x103) (lv' := [(3, .int x103), (2, .ref (ad 55)), (1, .ref (ad 0)), (0, .ref b)]) hx hb dL_law_1357 hl (k := 0) rfl (by rw [ex103]; rfl) (by decide) rfl (fun ls hl => ?_)
      refine lv_goto (tgt := 18) hx hb dL_law_1360 (by decide) ?_
      have I104 : jI2 σ77 := jI2_fr (congrFun (f79 2 (by decide)) 0) (congrFun (f79 2 (by decide)) 1) (congrFun (f79 2 (by decide)) 2) (congrFun (f79 2 (by decide)) 3) (f79 6 (by decide)) I56
      have I105 : jI9 σ77 := jI9_fr ((congrFun (f79 9 (by decide)) 0).trans (congrFun (f54 9 (by decide)) 0)) ((f79 10 (by decide)).trans (f54 10 (by decide))) ((f79 11 (by decide)).trans (f54 11 (by decide))) hI9
      have I106 : jI12 σ77 := jI12_fr ((congrFun (f79 12 (by decide)) 0).trans (congrFun (f54 12 (by decide)) 0)) ((f79 13 (by decide)).trans (f54 13 (by decide))) hI12
      have I107 : jI16 σ77 := jI16_fr ((congrFun (f79 16 (by decide)) 0).trans (congrFun (f54 16 (by decide)) 0)) ((congrFun (f79 16 (by decide)) 1).trans (congrFun (f54 16 (by decide)) 1)) ((congrFun (f79 16 (by decide)) 2).trans (congrFun (f54 16 (by decide)) 2)) ((f79 17 (by decide)).trans (f54 17 (by decide))) hI16
      have I108 : jI18 σ77 := jI18_fr ((congrFun (f79 18 (by decide)) 0).trans (congrFun (f54 18 (by decide)) 0)) ((f79 19 (by decide)).trans (f54 19 (by decide))) hI18
      have I109 : jI22 σ77 := jI22_fr ((congrFun (f79 22 (by decide)) 0).trans (congrFun (f54 22 (by decide)) 0)) ((f79 23 (by decide)).trans (f54 23 (by decide))) hI22
      have I110 : jI31 σ77 := jI31_fr ((congrFun (f79 31 (by decide)) 8).trans (congrFun (f54 31 (by decide)) 8)) ((f79 33 (by decide)).trans (f54 33 (by decide))) ((f79 36 (by decide)).trans (f54 36 (by decide))) hI31
      have I111 : jI38 σ77 := jI38_fr ((congrFun (f79 38 (by decide)) 0).trans (congrFun (f54 38 (by decide)) 0)) ((congrFun (f79 38 (by decide)) 1).trans (congrFun (f54 38 (by decide)) 1)) ((f79 39 (by decide)).trans (f54 39 (by decide))) hI38
      have I112 : jI43 σ77 := jI43_fr ((congrFun (f79 43 (by decide)) 8).trans (congrFun (f54 43 (by decide)) 8)) hI43
      have I113 : jI47 σ77 := jI47_fr ((congrFun (f79 47 (by decide)) 0).trans (congrFun (f54 47 (by decide)) 0)) ((f79 48 (by decide)).trans (f54 48 (by decide))) ((f79 49 (by decide)).trans (f54 49 (by decide))) hI47
      have I114 : jI50 σ77 := jI50_fr ((f79 52 (by decide)).trans (f54 52 (by decide))) hI50
      have I115 : jI103 σ77 := jI103_fr ((f80 9 (by decide)).trans (congrFun (f54 55 (by decide)) 9)) hI103
      have I116 : jI104 σ77 := jI104_fr ((f80 10 (by decide)).trans (congrFun (f54 55 (by decide)) 10)) ((f80 12 (by decide)).trans (congrFun (f54 55 (by decide)) 12)) ((f80 13 (by decide)).trans (congrFun (f54 55 (by decide)) 13)) ((f79 62 (by decide)).trans (f54 62 (by decide))) ((f79 67 (by decide)).trans (f54 67 (by decide))) hI104
      have I117 : jI105 σ77 := jI105_fr ((f80 15 (by decide)).trans (congrFun (f54 55 (by decide)) 15)) ((f79 65 (by decide)).trans (f54 65 (by decide))) hI105
      have I118 : jI106 σ77 := jI106_fr ((f80 32 (by decide)).trans (congrFun (f54 55 (by decide)) 32)) ((f79 70 (by decide)).trans (f54 70 (by decide))) ((f79 71 (by decide)).trans (f54 71 (by decide))) ((f79 72 (by decide)).trans (f54 72 (by decide))) hI106
      have I119 : jI107 σ77 := jI107_fr ((f80 12 (by decide)).trans (congrFun (f54 55 (by decide)) 12)) ((f80 47 (by decide)).trans (congrFun (f54 55 (by decide)) 47)) ((f79 80 (by decide)).trans (f54 80 (by decide))) hI107
      have I120 : jI109 σ77 := jI109_fr ((f80 50 (by decide)).trans (congrFun (f54 55 (by decide)) 50)) hI109
      have I121 : jI110 σ77 := jI110_fr ((f79 86 (by decide)).trans (f54 86 (by decide))) ((f79 87 (by decide)).trans (f54 87 (by decide))) hI110
      have I122 : jI111 σ77 := jI111_fr ((f79 79 (by decide)).trans (f54 79 (by decide))) hI111
      have I123 : jI119 σ77 := jI119_fr ((f79 68 (by decide)).trans (f54 68 (by decide))) hI119
      have p124 : jKept σ77 := jKept.fr ((f79 75 (by decide)).trans (f54 75 (by decide))) ((f79 76 (by decide)).trans (f54 76 (by decide))) ((f79 77 (by decide)).trans (f54 77 (by decide))) hs_jKept
      have p125 : jBook σ77 := jBook.fr ((f80 47 (by decide)).trans (congrFun (f54 55 (by decide)) 47)) ((f80 10 (by decide)).trans (congrFun (f54 55 (by decide)) 10)) ((f79 81 (by decide)).trans (f54 81 (by decide))) hs_jBook
      have z126 : (σ77 2 0).toInt = (σ52 2 0).toInt := (congrArg Int32.toInt (show σ77 2 0 = (σ52 2 0) from (congrFun (f79 2 (by decide)) 0)))
      have z127 : (σ77 2 2).toInt = (σ 2 2).toInt := (congrArg Int32.toInt (show σ77 2 2 = (σ 2 2) from ((congrFun (f79 2 (by decide)) 2).trans (f55 2 (by decide)))))
      have z128 : (σ77 2 3).toInt = (σ 2 3).toInt := (congrArg Int32.toInt (show σ77 2 3 = (σ 2 3) from ((congrFun (f79 2 (by decide)) 3).trans (f55 3 (by decide)))))
      have z129 : (σ77 9 0).toInt = (σ 9 0).toInt := (congrArg Int32.toInt (show σ77 9 0 = (σ 9 0) from ((congrFun (f79 9 (by decide)) 0).trans (congrFun (f54 9 (by decide)) 0))))
      have z130 : (σ77 55 15).toInt = (σ 55 15).toInt := (congrArg Int32.toInt (show σ77 55 15 = (σ 55 15) from ((f80 15 (by decide)).trans (congrFun (f54 55 (by decide)) 15))))
      have z131 : (σ77 16 0).toInt = (σ 16 0).toInt := (congrArg Int32.toInt (show σ77 16 0 = (σ 16 0) from ((congrFun (f79 16 (by decide)) 0).trans (congrFun (f54 16 (by decide)) 0))))
      have z132 : (σ77 55 10).toInt = (σ 55 10).toInt := (congrArg Int32.toInt (show σ77 55 10 = (σ 55 10) from ((f80 10 (by decide)).trans (congrFun (f54 55 (by decide)) 10))))
      have z133 : (σ77 16 1).toInt = (σ 16 1).toInt := (congrArg Int32.toInt (show σ77 16 1 = (σ 16 1) from ((congrFun (f79 16 (by decide)) 1).trans (congrFun (f54 16 (by decide)) 1))))
      have z134 : (σ77 55 12).toInt = (σ 55 12).toInt := (congrArg Int32.toInt (show σ77 55 12 = (σ 55 12) from ((f80 12 (by decide)).trans (congrFun (f54 55 (by decide)) 12))))
      have z135 : (σ77 16 2).toInt = (σ 16 2).toInt := (congrArg Int32.toInt (show σ77 16 2 = (σ 16 2) from ((congrFun (f79 16 (by decide)) 2).trans (congrFun (f54 16 (by decide)) 2))))
      have z136 : (σ77 55 13).toInt = (σ 55 13).toInt := (congrArg Int32.toInt (show σ77 55 13 = (σ 55 13) from ((f80 13 (by decide)).trans (congrFun (f54 55 (by decide)) 13))))
      have z137 : (σ77 38 0).toInt = (σ 38 0).toInt := (congrArg Int32.toInt (show σ77 38 0 = (σ 38 0) from ((congrFun (f79 38 (by decide)) 0).trans (congrFun (f54 38 (by decide)) 0))))
      have z138 : (σ77 55 32).toInt = (σ 55 32).toInt := (congrArg Int32.toInt (show σ77 55 32 = (σ 55 32) from ((f80 32 (by decide)).trans (congrFun (f54 55 (by decide)) 32))))
      have z139 : (σ77 47 0).toInt = (σ 47 0).toInt := (congrArg Int32.toInt (show σ77 47 0 = (σ 47 0) from ((congrFun (f79 47 (by decide)) 0).trans (congrFun (f54 47 (by decide)) 0))))
      have z140 : (σ77 55 47).toInt = (σ 55 47).toInt := (congrArg Int32.toInt (show σ77 55 47 = (σ 55 47) from ((f80 47 (by decide)).trans (congrFun (f54 55 (by decide)) 47))))
      have z141 : (σ77 55 30).toInt = (σ 55 30).toInt := (congrArg Int32.toInt (show σ77 55 30 = (σ 55 30) from ((f80 30 (by decide)).trans (congrFun (f54 55 (by decide)) 30))))
      have z142 : (σ77 55 31).toInt = (σ 55 31).toInt := (congrArg Int32.toInt (show σ77 55 31 = (σ 55 31) from ((f80 31 (by decide)).trans (congrFun (f54 55 (by decide)) 31))))
      exact ih x103 σ77 τ _ _ ls (by have h9 := tx103; omega) ⟨I104, I105, I106, I107, I108, I109, I110, I111, I112, I113, I114, I81, I82, I115, I116, I117, I118, I119, I120, I121, I122, I123, p124, p125, (by omega), (by omega), (by omega), (by omega), (by omega), (by omega), (by omega), (by omega), (by omega), (by omega), (by omega), (show jNumP (σ77 3) (σ77 56) (σ77 6) (σ77 57) (σ77 7) (σ77 58) (σ77 8) (σ77 59) (σ77 55 6).toInt (σ77 55 4).toInt by rw [show σ77 3 = σ 3 from ((f79 3 (by decide)).trans k72), show σ77 56 = σ 56 from (k101.trans (f54 56 (by decide))), show σ77 6 = σ 6 from ((f79 6 (by decide)).trans (f54 6 (by decide))), show σ77 57 = σ 57 from ((f79 57 (by decide)).trans (f54 57 (by decide))), show σ77 7 = σ 7 from ((f79 7 (by decide)).trans (f54 7 (by decide))), show σ77 58 = σ 58 from ((f79 58 (by decide)).trans (f54 58 (by decide))), show σ77 8 = σ 8 from ((f79 8 (by decide)).trans (f54 8 (by decide))), show σ77 59 = σ 59 from ((f79 59 (by decide)).trans (f54 59 (by decide))), show (σ77 55 6).toInt = (σ 55 6).toInt from by omega, show (σ77 55 4).toInt = (σ 55 4).toInt from by omega]; exact hr0), (show jOvP (σ77 56) (σ77 57) (σ77 58) (σ77 59) (σ77 55 4).toInt by rw [show σ77 56 = σ 56 from (k101.trans (f54 56 (by decide))), show σ77 57 = σ 57 from ((f79 57 (by decide)).trans (f54 57 (by decide))), show σ77 58 = σ 58 from ((f79 58 (by decide)).trans (f54 58 (by decide))), show σ77 59 = σ 59 from ((f79 59 (by decide)).trans (f54 59 (by decide))), show (σ77 55 4).toInt = (σ 55 4).toInt from by omega]; exact hr1), (show jTp (σ77 10) (σ77 63) (σ77 55 15).toInt by rw [show σ77 10 = σ 10 from ((f79 10 (by decide)).trans (f54 10 (by decide))), show σ77 63 = σ 63 from ((f79 63 (by decide)).trans (f54 63 (by decide)))]; exact hr2.le (by omega)), (show jSo (σ77 17) (σ77 62) (σ77 16 0).toInt by rw [show σ77 17 = σ 17 from ((f79 17 (by decide)).trans (f54 17 (by decide))), show σ77 62 = σ 62 from ((f79 62 (by decide)).trans (f54 62 (by decide))), show (σ77 16 0).toInt = (σ 16 0).toInt from by omega]; exact hr3), (show jShP (σ77 51) (σ77 52) (σ77 53) (σ77 86) (σ77 87) (σ77 55 32).toInt by rw [show σ77 51 = σ 51 from ((f79 51 (by decide)).trans (f54 51 (by decide))), show σ77 52 = σ 52 from ((f79 52 (by decide)).trans (f54 52 (by decide))), show σ77 53 = σ 53 from ((f79 53 (by decide)).trans (f54 53 (by decide))), show σ77 86 = σ 86 from ((f79 86 (by decide)).trans (f54 86 (by decide))), show σ77 87 = σ 87 from ((f79 87 (by decide)).trans (f54 87 (by decide)))]; exact (hr4.up (by omega) (by omega))), (show jEl (σ77 51) (σ77 52) (τ 54) (τ 88) by rw [show σ77 51 = σ 51 from ((f79 51 (by decide)).trans (f54 51 (by decide))), show σ77 52 = σ 52 from ((f79 52 (by decide)).trans (f54 52 (by decide)))]; exact hr5), (show jByP (σ77 51) (σ77 52) (τ 54) by rw [show σ77 51 = σ 51 from ((f79 51 (by decide)).trans (f54 51 (by decide))), show σ77 52 = σ 52 from ((f79 52 (by decide)).trans (f54 52 (by decide)))]; exact hr6), (show jBk (σ77 48) (σ77 80) (σ77 49) (σ77 81) (σ77 55 47).toInt by rw [show σ77 48 = σ 48 from ((f79 48 (by decide)).trans (f54 48 (by decide))), show σ77 49 = σ 49 from ((f79 49 (by decide)).trans (f54 49 (by decide))), show σ77 80 = σ 80 from ((f79 80 (by decide)).trans (f54 80 (by decide))), show σ77 81 = σ 81 from ((f79 81 (by decide)).trans (f54 81 (by decide))), show (σ77 55 47).toInt = (σ 55 47).toInt from by omega]; exact hr7)⟩ hP hS (lv_sub hl [0, 1, 2, 3] rfl)
    · obtain ⟨q150, k144, k145, k146, k147, k148, k149⟩ := h97
      exact absurd (by omega : False) id
    · obtain ⟨q158, k151, k152, k153, k154, k155, k156, k157⟩ := h98
      exact absurd (by omega : False) id
  · obtain ⟨q165, k159, k160, k161, k162, k163, k164⟩ := h68
    have q165 := q165.symm
    subst q165
    refine lv_pop hx hb dL_law_215 rfl ?_
    refine lv_aload_n hx hb dL_law_216 rfl (lv_at hl 1 rfl) ?_
    refine lv_aload_n hx hb dL_law_217 rfl (lv_at hl 3 rfl) ?_
    refine lv_iload_n hx hb dL_law_218 rfl (lv_at hl 0 rfl) ?_
    refine lv_iconst (v := 1) hx hb dL_law_219 (by decide) ?_
    refine lv_iadd hx hb dL_law_220 ?_
    refine jtopr ex46.symm ?_
    refine va_sld hx hb hX hbl hbA hS (jin tx46 (by omega) (by omega)) dL_law_221 ?_
    refine lv_aload_n hx hb dL_law_222 rfl (lv_at hl 3 rfl) ?_
    refine lv_iload_n hx hb dL_law_223 rfl (lv_at hl 0 rfl) ?_
    refine lv_iconst (v := 2) hx hb dL_law_224 (by decide) ?_
    refine lv_iadd hx hb dL_law_225 ?_
    refine jtopr ex48.symm ?_
    refine va_sld hx hb hX hbl hbA hS (jin tx48 (by omega) (by omega)) dL_law_226 ?_
    refine lv_aload_n hx hb dL_law_227 rfl (lv_at hl 3 rfl) ?_
    refine lv_iload_n hx hb dL_law_228 rfl (lv_at hl 0 rfl) ?_
    refine lv_iconst (v := 3) hx hb dL_law_229 (by decide) ?_
    refine lv_iadd hx hb dL_law_230 ?_
    refine jtopr ex50.symm ?_
    refine va_sld hx hb hX hbl hbA hS (jin tx50 (by omega) (by omega)) dL_law_231 ?_
    have I166 : jI101 σ52 := jI101_fr (congrFun (f54 55 (by decide)) 4) (congrFun (f54 55 (by decide)) 5) (f54 56 (by decide)) (f54 57 (by decide)) (f54 58 (by decide)) (f54 59 (by decide)) hI101
    have I167 : jI102 σ52 := jI102_fr (congrFun (f54 55 (by decide)) 6) (f54 60 (by decide)) (f54 61 (by decide)) hI102
    have z168 : (σ52 55 6).toInt = (σ 55 6).toInt := (congrArg Int32.toInt (show σ52 55 6 = (σ 55 6) from (congrFun (f54 55 (by decide)) 6)))
    refine jcallV (As := [.int (xs x46.toNatClampNeg), .int (xs x48.toNatClampNeg), .int (xs x50.toNatClampNeg)]) (rest := []) ⟨hx, hb, hml, hown, hts⟩ hK hP hA hS hZ (c_X12_bowler l D cI cL ad zz hJ σ52 τ (xs x46.toNatClampNeg) ((xs x46.toNatClampNeg).toInt) rfl (xs x48.toNatClampNeg) ((xs x48.toNatClampNeg).toInt) rfl (xs x50.toNatClampNeg) ((xs x50.toNatClampNeg).toInt) rfl I166 I167) cw_RL_17 (jc_55 cI cL ad σ52 τ) rfl ⟨Nat.le_of_ble_eq_true rfl, Nat.le_of_ble_eq_true rfl⟩ rfl rfl rfl hl.1 rfl (Nat.le_of_ble_eq_true rfl) dL_law_232 ⟨Nat.le_of_ble_eq_true rfl, Nat.le_of_ble_eq_true rfl⟩ (fun r170 σ169 τ169 H locs h169 hP hS => ?_)
    obtain ⟨rfl, f171, f172, I173, I174, h169⟩ := h169
    obtain ⟨i176, i177, i178, w179, w180, w181, w182⟩ : (0 ≤ (σ169 55 5).toInt) ∧ ((σ169 55 5).toInt ≤ (σ169 55 4).toInt) ∧ ((σ169 55 4).toInt ≤ 40) ∧ (∀ k : Nat, k < 68 → (-200) ≤ (σ169 56 k).toInt ∧ (σ169 56 k).toInt ≤ 500) ∧ (∀ k : Nat, k < 40 → 0 ≤ (σ169 57 k).toInt ∧ (σ169 57 k).toInt ≤ 67) ∧ (∀ k : Nat, k < 40 → (-200) ≤ (σ169 58 k).toInt ∧ (σ169 58 k).toInt ≤ 500) ∧ (∀ k : Nat, k < 40 → (-200) ≤ (σ169 59 k).toInt ∧ (σ169 59 k).toInt ≤ 500) := id I173
    obtain ⟨i183, w184, w185⟩ : (0 ≤ (σ169 55 6).toInt ∧ (σ169 55 6).toInt ≤ 4) ∧ (∀ k : Nat, k < 4 → 0 ≤ (σ169 60 k).toInt ∧ (σ169 60 k).toInt ≤ 50) ∧ (∀ k : Nat, k < 4 → 0 ≤ (σ169 61 k).toInt ∧ (σ169 61 k).toInt ≤ 20) := id I174
    have z186 : (σ169 55 5).toInt = (σ 55 5).toInt := (congrArg Int32.toInt (show σ169 55 5 = (σ 55 5) from ((f172 5 (by decide)).trans (congrFun (f54 55 (by decide)) 5))))
    have z187 : (σ169 55 4).toInt = (σ 55 4).toInt := (congrArg Int32.toInt (show σ169 55 4 = (σ 55 4) from ((f172 4 (by decide)).trans (congrFun (f54 55 (by decide)) 4))))
    rcases h169 with h188 | h189 | h190
    · obtain ⟨q194, k191, k192, k193⟩ := h188
      exact absurd (by omega : False) id
    · obtain ⟨q201, k195, k196, k197, k198, k199, k200⟩ := h189
      have q201 := q201.symm
      subst q201
      refine lv_pop hx hb dL_law_235 rfl ?_
      refine lv_goto (tgt := 1357) hx hb dL_law_236 (by decide) ?_
      obtain ⟨x202, ex202⟩ : ∃ y : Int32, y = x0 + 6 := ⟨_, rfl⟩
      have tx202 : x202.toInt = x0.toInt + 6 := (jadd ex202 rfl jz_6 (by omega) (by omega)).trans (by omega)
      refine lv_iinc (v := x202) (lv' := [(3, .int x202), (2, .ref (ad 55)), (1, .ref (ad 0)), (0, .ref b)]) hx hb dL_law_1357 hl (k := 0) rfl (by rw [ex202]; rfl) (by decide) rfl (fun ls hl => ?_)
      refine lv_goto (tgt := 18) hx hb dL_law_1360 (by decide) ?_
      have I203 : jI2 σ169 := jI2_fr (congrFun (f171 2 (by decide)) 0) (congrFun (f171 2 (by decide)) 1) (congrFun (f171 2 (by decide)) 2) (congrFun (f171 2 (by decide)) 3) (f171 6 (by decide)) I56
      have I204 : jI9 σ169 := jI9_fr ((congrFun (f171 9 (by decide)) 0).trans (congrFun (f54 9 (by decide)) 0)) ((f171 10 (by decide)).trans (f54 10 (by decide))) ((f171 11 (by decide)).trans (f54 11 (by decide))) hI9
      have I205 : jI12 σ169 := jI12_fr ((congrFun (f171 12 (by decide)) 0).trans (congrFun (f54 12 (by decide)) 0)) ((f171 13 (by decide)).trans (f54 13 (by decide))) hI12
      have I206 : jI16 σ169 := jI16_fr ((congrFun (f171 16 (by decide)) 0).trans (congrFun (f54 16 (by decide)) 0)) ((congrFun (f171 16 (by decide)) 1).trans (congrFun (f54 16 (by decide)) 1)) ((congrFun (f171 16 (by decide)) 2).trans (congrFun (f54 16 (by decide)) 2)) ((f171 17 (by decide)).trans (f54 17 (by decide))) hI16
      have I207 : jI18 σ169 := jI18_fr ((congrFun (f171 18 (by decide)) 0).trans (congrFun (f54 18 (by decide)) 0)) ((f171 19 (by decide)).trans (f54 19 (by decide))) hI18
      have I208 : jI22 σ169 := jI22_fr ((congrFun (f171 22 (by decide)) 0).trans (congrFun (f54 22 (by decide)) 0)) ((f171 23 (by decide)).trans (f54 23 (by decide))) hI22
      have I209 : jI31 σ169 := jI31_fr ((congrFun (f171 31 (by decide)) 8).trans (congrFun (f54 31 (by decide)) 8)) ((f171 33 (by decide)).trans (f54 33 (by decide))) ((f171 36 (by decide)).trans (f54 36 (by decide))) hI31
      have I210 : jI38 σ169 := jI38_fr ((congrFun (f171 38 (by decide)) 0).trans (congrFun (f54 38 (by decide)) 0)) ((congrFun (f171 38 (by decide)) 1).trans (congrFun (f54 38 (by decide)) 1)) ((f171 39 (by decide)).trans (f54 39 (by decide))) hI38
      have I211 : jI43 σ169 := jI43_fr ((congrFun (f171 43 (by decide)) 8).trans (congrFun (f54 43 (by decide)) 8)) hI43
      have I212 : jI47 σ169 := jI47_fr ((congrFun (f171 47 (by decide)) 0).trans (congrFun (f54 47 (by decide)) 0)) ((f171 48 (by decide)).trans (f54 48 (by decide))) ((f171 49 (by decide)).trans (f54 49 (by decide))) hI47
      have I213 : jI50 σ169 := jI50_fr ((f171 52 (by decide)).trans (f54 52 (by decide))) hI50
      have I214 : jI103 σ169 := jI103_fr ((f172 9 (by decide)).trans (congrFun (f54 55 (by decide)) 9)) hI103
      have I215 : jI104 σ169 := jI104_fr ((f172 10 (by decide)).trans (congrFun (f54 55 (by decide)) 10)) ((f172 12 (by decide)).trans (congrFun (f54 55 (by decide)) 12)) ((f172 13 (by decide)).trans (congrFun (f54 55 (by decide)) 13)) ((f171 62 (by decide)).trans (f54 62 (by decide))) ((f171 67 (by decide)).trans (f54 67 (by decide))) hI104
      have I216 : jI105 σ169 := jI105_fr ((f172 15 (by decide)).trans (congrFun (f54 55 (by decide)) 15)) ((f171 65 (by decide)).trans (f54 65 (by decide))) hI105
      have I217 : jI106 σ169 := jI106_fr ((f172 32 (by decide)).trans (congrFun (f54 55 (by decide)) 32)) ((f171 70 (by decide)).trans (f54 70 (by decide))) ((f171 71 (by decide)).trans (f54 71 (by decide))) ((f171 72 (by decide)).trans (f54 72 (by decide))) hI106
      have I218 : jI107 σ169 := jI107_fr ((f172 12 (by decide)).trans (congrFun (f54 55 (by decide)) 12)) ((f172 47 (by decide)).trans (congrFun (f54 55 (by decide)) 47)) ((f171 80 (by decide)).trans (f54 80 (by decide))) hI107
      have I219 : jI109 σ169 := jI109_fr ((f172 50 (by decide)).trans (congrFun (f54 55 (by decide)) 50)) hI109
      have I220 : jI110 σ169 := jI110_fr ((f171 86 (by decide)).trans (f54 86 (by decide))) ((f171 87 (by decide)).trans (f54 87 (by decide))) hI110
      have I221 : jI111 σ169 := jI111_fr ((f171 79 (by decide)).trans (f54 79 (by decide))) hI111
      have I222 : jI119 σ169 := jI119_fr ((f171 68 (by decide)).trans (f54 68 (by decide))) hI119
      have p223 : jKept σ169 := jKept.fr ((f171 75 (by decide)).trans (f54 75 (by decide))) ((f171 76 (by decide)).trans (f54 76 (by decide))) ((f171 77 (by decide)).trans (f54 77 (by decide))) hs_jKept
      have p224 : jBook σ169 := jBook.fr ((f172 47 (by decide)).trans (congrFun (f54 55 (by decide)) 47)) ((f172 10 (by decide)).trans (congrFun (f54 55 (by decide)) 10)) ((f171 81 (by decide)).trans (f54 81 (by decide))) hs_jBook
      have z225 : (σ169 2 0).toInt = (σ52 2 0).toInt := (congrArg Int32.toInt (show σ169 2 0 = (σ52 2 0) from (congrFun (f171 2 (by decide)) 0)))
      have z226 : (σ169 2 2).toInt = (σ 2 2).toInt := (congrArg Int32.toInt (show σ169 2 2 = (σ 2 2) from ((congrFun (f171 2 (by decide)) 2).trans (f55 2 (by decide)))))
      have z227 : (σ169 2 3).toInt = (σ 2 3).toInt := (congrArg Int32.toInt (show σ169 2 3 = (σ 2 3) from ((congrFun (f171 2 (by decide)) 3).trans (f55 3 (by decide)))))
      have z228 : (σ169 9 0).toInt = (σ 9 0).toInt := (congrArg Int32.toInt (show σ169 9 0 = (σ 9 0) from ((congrFun (f171 9 (by decide)) 0).trans (congrFun (f54 9 (by decide)) 0))))
      have z229 : (σ169 55 15).toInt = (σ 55 15).toInt := (congrArg Int32.toInt (show σ169 55 15 = (σ 55 15) from ((f172 15 (by decide)).trans (congrFun (f54 55 (by decide)) 15))))
      have z230 : (σ169 16 0).toInt = (σ 16 0).toInt := (congrArg Int32.toInt (show σ169 16 0 = (σ 16 0) from ((congrFun (f171 16 (by decide)) 0).trans (congrFun (f54 16 (by decide)) 0))))
      have z231 : (σ169 55 10).toInt = (σ 55 10).toInt := (congrArg Int32.toInt (show σ169 55 10 = (σ 55 10) from ((f172 10 (by decide)).trans (congrFun (f54 55 (by decide)) 10))))
      have z232 : (σ169 16 1).toInt = (σ 16 1).toInt := (congrArg Int32.toInt (show σ169 16 1 = (σ 16 1) from ((congrFun (f171 16 (by decide)) 1).trans (congrFun (f54 16 (by decide)) 1))))
      have z233 : (σ169 55 12).toInt = (σ 55 12).toInt := (congrArg Int32.toInt (show σ169 55 12 = (σ 55 12) from ((f172 12 (by decide)).trans (congrFun (f54 55 (by decide)) 12))))
      have z234 : (σ169 16 2).toInt = (σ 16 2).toInt := (congrArg Int32.toInt (show σ169 16 2 = (σ 16 2) from ((congrFun (f171 16 (by decide)) 2).trans (congrFun (f54 16 (by decide)) 2))))
      have z235 : (σ169 55 13).toInt = (σ 55 13).toInt := (congrArg Int32.toInt (show σ169 55 13 = (σ 55 13) from ((f172 13 (by decide)).trans (congrFun (f54 55 (by decide)) 13))))
      have z236 : (σ169 38 0).toInt = (σ 38 0).toInt := (congrArg Int32.toInt (show σ169 38 0 = (σ 38 0) from ((congrFun (f171 38 (by decide)) 0).trans (congrFun (f54 38 (by decide)) 0))))
      have z237 : (σ169 55 32).toInt = (σ 55 32).toInt := (congrArg Int32.toInt (show σ169 55 32 = (σ 55 32) from ((f172 32 (by decide)).trans (congrFun (f54 55 (by decide)) 32))))
      have z238 : (σ169 47 0).toInt = (σ 47 0).toInt := (congrArg Int32.toInt (show σ169 47 0 = (σ 47 0) from ((congrFun (f171 47 (by decide)) 0).trans (congrFun (f54 47 (by decide)) 0))))
      have z239 : (σ169 55 47).toInt = (σ 55 47).toInt := (congrArg Int32.toInt (show σ169 55 47 = (σ 55 47) from ((f172 47 (by decide)).trans (congrFun (f54 55 (by decide)) 47))))
      have z240 : (σ169 55 30).toInt = (σ 55 30).toInt := (congrArg Int32.toInt (show σ169 55 30 = (σ 55 30) from ((f172 30 (by decide)).trans (congrFun (f54 55 (by decide)) 30))))
      have z241 : (σ169 55 31).toInt = (σ 55 31).toInt := (congrArg Int32.toInt (show σ169 55 31 = (σ 55 31) from ((f172 31 (by decide)).trans (congrFun (f54 55 (by decide)) 31))))
      exact ih x202 σ169 τ _ _ ls (by have h9 := tx202; omega) ⟨I203, I204, I205, I206, I207, I208, I209, I210, I211, I212, I213, I173, I174, I214, I215, I216, I217, I218, I219, I220, I221, I222, p223, p224, (by omega), (by omega), (by omega), (by omega), (by omega), (by omega), (by omega), (by omega), (by omega), (by omega), (by omega), (show jNumP (σ169 3) (σ169 56) (σ169 6) (σ169 57) (σ169 7) (σ169 58) (σ169 8) (σ169 59) (σ169 55 6).toInt (σ169 55 4).toInt by rw [show σ169 3 = σ 3 from ((f171 3 (by decide)).trans k164), show σ169 56 = σ 56 from (k200.trans (f54 56 (by decide))), show σ169 6 = σ 6 from ((f171 6 (by decide)).trans (f54 6 (by decide))), show σ169 57 = σ 57 from ((f171 57 (by decide)).trans (f54 57 (by decide))), show σ169 7 = σ 7 from ((f171 7 (by decide)).trans (f54 7 (by decide))), show σ169 58 = σ 58 from ((f171 58 (by decide)).trans (f54 58 (by decide))), show σ169 8 = σ 8 from ((f171 8 (by decide)).trans (f54 8 (by decide))), show σ169 59 = σ 59 from ((f171 59 (by decide)).trans (f54 59 (by decide))), show (σ169 55 6).toInt = (σ 55 6).toInt from by omega, show (σ169 55 4).toInt = (σ 55 4).toInt from by omega]; exact hr0), (show jOvP (σ169 56) (σ169 57) (σ169 58) (σ169 59) (σ169 55 4).toInt by rw [show σ169 56 = σ 56 from (k200.trans (f54 56 (by decide))), show σ169 57 = σ 57 from ((f171 57 (by decide)).trans (f54 57 (by decide))), show σ169 58 = σ 58 from ((f171 58 (by decide)).trans (f54 58 (by decide))), show σ169 59 = σ 59 from ((f171 59 (by decide)).trans (f54 59 (by decide))), show (σ169 55 4).toInt = (σ 55 4).toInt from by omega]; exact hr1), (show jTp (σ169 10) (σ169 63) (σ169 55 15).toInt by rw [show σ169 10 = σ 10 from ((f171 10 (by decide)).trans (f54 10 (by decide))), show σ169 63 = σ 63 from ((f171 63 (by decide)).trans (f54 63 (by decide)))]; exact hr2.le (by omega)), (show jSo (σ169 17) (σ169 62) (σ169 16 0).toInt by rw [show σ169 17 = σ 17 from ((f171 17 (by decide)).trans (f54 17 (by decide))), show σ169 62 = σ 62 from ((f171 62 (by decide)).trans (f54 62 (by decide))), show (σ169 16 0).toInt = (σ 16 0).toInt from by omega]; exact hr3), (show jShP (σ169 51) (σ169 52) (σ169 53) (σ169 86) (σ169 87) (σ169 55 32).toInt by rw [show σ169 51 = σ 51 from ((f171 51 (by decide)).trans (f54 51 (by decide))), show σ169 52 = σ 52 from ((f171 52 (by decide)).trans (f54 52 (by decide))), show σ169 53 = σ 53 from ((f171 53 (by decide)).trans (f54 53 (by decide))), show σ169 86 = σ 86 from ((f171 86 (by decide)).trans (f54 86 (by decide))), show σ169 87 = σ 87 from ((f171 87 (by decide)).trans (f54 87 (by decide)))]; exact (hr4.up (by omega) (by omega))), (show jEl (σ169 51) (σ169 52) (τ 54) (τ 88) by rw [show σ169 51 = σ 51 from ((f171 51 (by decide)).trans (f54 51 (by decide))), show σ169 52 = σ 52 from ((f171 52 (by decide)).trans (f54 52 (by decide)))]; exact hr5), (show jByP (σ169 51) (σ169 52) (τ 54) by rw [show σ169 51 = σ 51 from ((f171 51 (by decide)).trans (f54 51 (by decide))), show σ169 52 = σ 52 from ((f171 52 (by decide)).trans (f54 52 (by decide)))]; exact hr6), (show jBk (σ169 48) (σ169 80) (σ169 49) (σ169 81) (σ169 55 47).toInt by rw [show σ169 48 = σ 48 from ((f171 48 (by decide)).trans (f54 48 (by decide))), show σ169 49 = σ 49 from ((f171 49 (by decide)).trans (f54 49 (by decide))), show σ169 80 = σ 80 from ((f171 80 (by decide)).trans (f54 80 (by decide))), show σ169 81 = σ 81 from ((f171 81 (by decide)).trans (f54 81 (by decide))), show (σ169 55 47).toInt = (σ 55 47).toInt from by omega]; exact hr7)⟩ hP hS (lv_sub hl [0, 1, 2, 3] rfl)
    · obtain ⟨q250, k243, k244, k245, k246, k247, k248, k249⟩ := h190
      exact absurd (by omega : False) id
  · obtain ⟨q258, k251, k252, k253, k254, k255, k256, k257⟩ := h69
    refine lv_pop hx hb dL_law_215 rfl ?_
    refine lv_aload_n hx hb dL_law_216 rfl (lv_at hl 1 rfl) ?_
    refine lv_aload_n hx hb dL_law_217 rfl (lv_at hl 3 rfl) ?_
    refine lv_iload_n hx hb dL_law_218 rfl (lv_at hl 0 rfl) ?_
    refine lv_iconst (v := 1) hx hb dL_law_219 (by decide) ?_
    refine lv_iadd hx hb dL_law_220 ?_
    refine jtopr ex46.symm ?_
    refine va_sld hx hb hX hbl hbA hS (jin tx46 (by omega) (by omega)) dL_law_221 ?_
    refine lv_aload_n hx hb dL_law_222 rfl (lv_at hl 3 rfl) ?_
    refine lv_iload_n hx hb dL_law_223 rfl (lv_at hl 0 rfl) ?_
    refine lv_iconst (v := 2) hx hb dL_law_224 (by decide) ?_
    refine lv_iadd hx hb dL_law_225 ?_
    refine jtopr ex48.symm ?_
    refine va_sld hx hb hX hbl hbA hS (jin tx48 (by omega) (by omega)) dL_law_226 ?_
    refine lv_aload_n hx hb dL_law_227 rfl (lv_at hl 3 rfl) ?_
    refine lv_iload_n hx hb dL_law_228 rfl (lv_at hl 0 rfl) ?_
    refine lv_iconst (v := 3) hx hb dL_law_229 (by decide) ?_
    refine lv_iadd hx hb dL_law_230 ?_
    refine jtopr ex50.symm ?_
    refine va_sld hx hb hX hbl hbA hS (jin tx50 (by omega) (by omega)) dL_law_231 ?_
    have I259 : jI101 σ52 := jI101_fr (congrFun (f54 55 (by decide)) 4) (congrFun (f54 55 (by decide)) 5) (f54 56 (by decide)) (f54 57 (by decide)) (f54 58 (by decide)) (f54 59 (by decide)) hI101
    have I260 : jI102 σ52 := jI102_fr (congrFun (f54 55 (by decide)) 6) (f54 60 (by decide)) (f54 61 (by decide)) hI102
    have z261 : (σ52 55 6).toInt = (σ 55 6).toInt := (congrArg Int32.toInt (show σ52 55 6 = (σ 55 6) from (congrFun (f54 55 (by decide)) 6)))
    refine jcallV (As := [.int (xs x46.toNatClampNeg), .int (xs x48.toNatClampNeg), .int (xs x50.toNatClampNeg)]) (rest := []) ⟨hx, hb, hml, hown, hts⟩ hK hP hA hS hZ (c_X12_bowler l D cI cL ad zz hJ σ52 τ (xs x46.toNatClampNeg) ((xs x46.toNatClampNeg).toInt) rfl (xs x48.toNatClampNeg) ((xs x48.toNatClampNeg).toInt) rfl (xs x50.toNatClampNeg) ((xs x50.toNatClampNeg).toInt) rfl I259 I260) cw_RL_17 (jc_55 cI cL ad σ52 τ) rfl ⟨Nat.le_of_ble_eq_true rfl, Nat.le_of_ble_eq_true rfl⟩ rfl rfl rfl hl.1 rfl (Nat.le_of_ble_eq_true rfl) dL_law_232 ⟨Nat.le_of_ble_eq_true rfl, Nat.le_of_ble_eq_true rfl⟩ (fun r263 σ262 τ262 H locs h262 hP hS => ?_)
    obtain ⟨rfl, f264, f265, I266, I267, h262⟩ := h262
    obtain ⟨i269, i270, i271, w272, w273, w274, w275⟩ : (0 ≤ (σ262 55 5).toInt) ∧ ((σ262 55 5).toInt ≤ (σ262 55 4).toInt) ∧ ((σ262 55 4).toInt ≤ 40) ∧ (∀ k : Nat, k < 68 → (-200) ≤ (σ262 56 k).toInt ∧ (σ262 56 k).toInt ≤ 500) ∧ (∀ k : Nat, k < 40 → 0 ≤ (σ262 57 k).toInt ∧ (σ262 57 k).toInt ≤ 67) ∧ (∀ k : Nat, k < 40 → (-200) ≤ (σ262 58 k).toInt ∧ (σ262 58 k).toInt ≤ 500) ∧ (∀ k : Nat, k < 40 → (-200) ≤ (σ262 59 k).toInt ∧ (σ262 59 k).toInt ≤ 500) := id I266
    obtain ⟨i276, w277, w278⟩ : (0 ≤ (σ262 55 6).toInt ∧ (σ262 55 6).toInt ≤ 4) ∧ (∀ k : Nat, k < 4 → 0 ≤ (σ262 60 k).toInt ∧ (σ262 60 k).toInt ≤ 50) ∧ (∀ k : Nat, k < 4 → 0 ≤ (σ262 61 k).toInt ∧ (σ262 61 k).toInt ≤ 20) := id I267
    have z279 : (σ262 55 5).toInt = (σ 55 5).toInt := (congrArg Int32.toInt (show σ262 55 5 = (σ 55 5) from ((f265 5 (by decide)).trans (congrFun (f54 55 (by decide)) 5))))
    have z280 : (σ262 55 4).toInt = (σ 55 4).toInt := (congrArg Int32.toInt (show σ262 55 4 = (σ 55 4) from ((f265 4 (by decide)).trans (congrFun (f54 55 (by decide)) 4))))
    rcases h262 with h281 | h282 | h283
    · obtain ⟨q287, k284, k285, k286⟩ := h281
      exact absurd (by omega : False) id
    · obtain ⟨q294, k288, k289, k290, k291, k292, k293⟩ := h282
      exact absurd (by omega : False) id
    · obtain ⟨q302, k295, k296, k297, k298, k299, k300, k301⟩ := h283
      refine lv_pop hx hb dL_law_235 rfl ?_
      refine lv_goto (tgt := 1357) hx hb dL_law_236 (by decide) ?_
      obtain ⟨x303, ex303⟩ : ∃ y : Int32, y = x0 + 6 := ⟨_, rfl⟩
      have tx303 : x303.toInt = x0.toInt + 6 := (jadd ex303 rfl jz_6 (by omega) (by omega)).trans (by omega)
      refine lv_iinc (v := x303) (lv' := [(3, .int x303), (2, .ref (ad 55)), (1, .ref (ad 0)), (0, .ref b)]) hx hb dL_law_1357 hl (k := 0) rfl (by rw [ex303]; rfl) (by decide) rfl (fun ls hl => ?_)
      refine lv_goto (tgt := 18) hx hb dL_law_1360 (by decide) ?_
      have I304 : jI2 σ262 := jI2_fr (congrFun (f264 2 (by decide)) 0) (congrFun (f264 2 (by decide)) 1) (congrFun (f264 2 (by decide)) 2) (congrFun (f264 2 (by decide)) 3) (f264 6 (by decide)) I56
      have I305 : jI9 σ262 := jI9_fr ((congrFun (f264 9 (by decide)) 0).trans (congrFun (f54 9 (by decide)) 0)) ((f264 10 (by decide)).trans (f54 10 (by decide))) ((f264 11 (by decide)).trans (f54 11 (by decide))) hI9
      have I306 : jI12 σ262 := jI12_fr ((congrFun (f264 12 (by decide)) 0).trans (congrFun (f54 12 (by decide)) 0)) ((f264 13 (by decide)).trans (f54 13 (by decide))) hI12
      have I307 : jI16 σ262 := jI16_fr ((congrFun (f264 16 (by decide)) 0).trans (congrFun (f54 16 (by decide)) 0)) ((congrFun (f264 16 (by decide)) 1).trans (congrFun (f54 16 (by decide)) 1)) ((congrFun (f264 16 (by decide)) 2).trans (congrFun (f54 16 (by decide)) 2)) ((f264 17 (by decide)).trans (f54 17 (by decide))) hI16
      have I308 : jI18 σ262 := jI18_fr ((congrFun (f264 18 (by decide)) 0).trans (congrFun (f54 18 (by decide)) 0)) ((f264 19 (by decide)).trans (f54 19 (by decide))) hI18
      have I309 : jI22 σ262 := jI22_fr ((congrFun (f264 22 (by decide)) 0).trans (congrFun (f54 22 (by decide)) 0)) ((f264 23 (by decide)).trans (f54 23 (by decide))) hI22
      have I310 : jI31 σ262 := jI31_fr ((congrFun (f264 31 (by decide)) 8).trans (congrFun (f54 31 (by decide)) 8)) ((f264 33 (by decide)).trans (f54 33 (by decide))) ((f264 36 (by decide)).trans (f54 36 (by decide))) hI31
      have I311 : jI38 σ262 := jI38_fr ((congrFun (f264 38 (by decide)) 0).trans (congrFun (f54 38 (by decide)) 0)) ((congrFun (f264 38 (by decide)) 1).trans (congrFun (f54 38 (by decide)) 1)) ((f264 39 (by decide)).trans (f54 39 (by decide))) hI38
      have I312 : jI43 σ262 := jI43_fr ((congrFun (f264 43 (by decide)) 8).trans (congrFun (f54 43 (by decide)) 8)) hI43
      have I313 : jI47 σ262 := jI47_fr ((congrFun (f264 47 (by decide)) 0).trans (congrFun (f54 47 (by decide)) 0)) ((f264 48 (by decide)).trans (f54 48 (by decide))) ((f264 49 (by decide)).trans (f54 49 (by decide))) hI47
      have I314 : jI50 σ262 := jI50_fr ((f264 52 (by decide)).trans (f54 52 (by decide))) hI50
      have I315 : jI103 σ262 := jI103_fr ((f265 9 (by decide)).trans (congrFun (f54 55 (by decide)) 9)) hI103
      have I316 : jI104 σ262 := jI104_fr ((f265 10 (by decide)).trans (congrFun (f54 55 (by decide)) 10)) ((f265 12 (by decide)).trans (congrFun (f54 55 (by decide)) 12)) ((f265 13 (by decide)).trans (congrFun (f54 55 (by decide)) 13)) ((f264 62 (by decide)).trans (f54 62 (by decide))) ((f264 67 (by decide)).trans (f54 67 (by decide))) hI104
      have I317 : jI105 σ262 := jI105_fr ((f265 15 (by decide)).trans (congrFun (f54 55 (by decide)) 15)) ((f264 65 (by decide)).trans (f54 65 (by decide))) hI105
      have I318 : jI106 σ262 := jI106_fr ((f265 32 (by decide)).trans (congrFun (f54 55 (by decide)) 32)) ((f264 70 (by decide)).trans (f54 70 (by decide))) ((f264 71 (by decide)).trans (f54 71 (by decide))) ((f264 72 (by decide)).trans (f54 72 (by decide))) hI106
      have I319 : jI107 σ262 := jI107_fr ((f265 12 (by decide)).trans (congrFun (f54 55 (by decide)) 12)) ((f265 47 (by decide)).trans (congrFun (f54 55 (by decide)) 47)) ((f264 80 (by decide)).trans (f54 80 (by decide))) hI107
      have I320 : jI109 σ262 := jI109_fr ((f265 50 (by decide)).trans (congrFun (f54 55 (by decide)) 50)) hI109
      have I321 : jI110 σ262 := jI110_fr ((f264 86 (by decide)).trans (f54 86 (by decide))) ((f264 87 (by decide)).trans (f54 87 (by decide))) hI110
      have I322 : jI111 σ262 := jI111_fr ((f264 79 (by decide)).trans (f54 79 (by decide))) hI111
      have I323 : jI119 σ262 := jI119_fr ((f264 68 (by decide)).trans (f54 68 (by decide))) hI119
      have p324 : jKept σ262 := jKept.fr ((f264 75 (by decide)).trans (f54 75 (by decide))) ((f264 76 (by decide)).trans (f54 76 (by decide))) ((f264 77 (by decide)).trans (f54 77 (by decide))) hs_jKept
      have p325 : jBook σ262 := jBook.fr ((f265 47 (by decide)).trans (congrFun (f54 55 (by decide)) 47)) ((f265 10 (by decide)).trans (congrFun (f54 55 (by decide)) 10)) ((f264 81 (by decide)).trans (f54 81 (by decide))) hs_jBook
      have z326 : (σ262 2 0).toInt = (σ52 2 0).toInt := (congrArg Int32.toInt (show σ262 2 0 = (σ52 2 0) from (congrFun (f264 2 (by decide)) 0)))
      have z327 : (σ262 2 2).toInt = (σ 2 2).toInt := (congrArg Int32.toInt (show σ262 2 2 = (σ 2 2) from ((congrFun (f264 2 (by decide)) 2).trans (f55 2 (by decide)))))
      have z328 : (σ262 2 3).toInt = (σ 2 3).toInt := (congrArg Int32.toInt (show σ262 2 3 = (σ 2 3) from ((congrFun (f264 2 (by decide)) 3).trans (f55 3 (by decide)))))
      have z329 : (σ262 9 0).toInt = (σ 9 0).toInt := (congrArg Int32.toInt (show σ262 9 0 = (σ 9 0) from ((congrFun (f264 9 (by decide)) 0).trans (congrFun (f54 9 (by decide)) 0))))
      have z330 : (σ262 55 15).toInt = (σ 55 15).toInt := (congrArg Int32.toInt (show σ262 55 15 = (σ 55 15) from ((f265 15 (by decide)).trans (congrFun (f54 55 (by decide)) 15))))
      have z331 : (σ262 16 0).toInt = (σ 16 0).toInt := (congrArg Int32.toInt (show σ262 16 0 = (σ 16 0) from ((congrFun (f264 16 (by decide)) 0).trans (congrFun (f54 16 (by decide)) 0))))
      have z332 : (σ262 55 10).toInt = (σ 55 10).toInt := (congrArg Int32.toInt (show σ262 55 10 = (σ 55 10) from ((f265 10 (by decide)).trans (congrFun (f54 55 (by decide)) 10))))
      have z333 : (σ262 16 1).toInt = (σ 16 1).toInt := (congrArg Int32.toInt (show σ262 16 1 = (σ 16 1) from ((congrFun (f264 16 (by decide)) 1).trans (congrFun (f54 16 (by decide)) 1))))
      have z334 : (σ262 55 12).toInt = (σ 55 12).toInt := (congrArg Int32.toInt (show σ262 55 12 = (σ 55 12) from ((f265 12 (by decide)).trans (congrFun (f54 55 (by decide)) 12))))
      have z335 : (σ262 16 2).toInt = (σ 16 2).toInt := (congrArg Int32.toInt (show σ262 16 2 = (σ 16 2) from ((congrFun (f264 16 (by decide)) 2).trans (congrFun (f54 16 (by decide)) 2))))
      have z336 : (σ262 55 13).toInt = (σ 55 13).toInt := (congrArg Int32.toInt (show σ262 55 13 = (σ 55 13) from ((f265 13 (by decide)).trans (congrFun (f54 55 (by decide)) 13))))
      have z337 : (σ262 38 0).toInt = (σ 38 0).toInt := (congrArg Int32.toInt (show σ262 38 0 = (σ 38 0) from ((congrFun (f264 38 (by decide)) 0).trans (congrFun (f54 38 (by decide)) 0))))
      have z338 : (σ262 55 32).toInt = (σ 55 32).toInt := (congrArg Int32.toInt (show σ262 55 32 = (σ 55 32) from ((f265 32 (by decide)).trans (congrFun (f54 55 (by decide)) 32))))
      have z339 : (σ262 47 0).toInt = (σ 47 0).toInt := (congrArg Int32.toInt (show σ262 47 0 = (σ 47 0) from ((congrFun (f264 47 (by decide)) 0).trans (congrFun (f54 47 (by decide)) 0))))
      have z340 : (σ262 55 47).toInt = (σ 55 47).toInt := (congrArg Int32.toInt (show σ262 55 47 = (σ 55 47) from ((f265 47 (by decide)).trans (congrFun (f54 55 (by decide)) 47))))
      have z341 : (σ262 55 30).toInt = (σ 55 30).toInt := (congrArg Int32.toInt (show σ262 55 30 = (σ 55 30) from ((f265 30 (by decide)).trans (congrFun (f54 55 (by decide)) 30))))
      have z342 : (σ262 55 31).toInt = (σ 55 31).toInt := (congrArg Int32.toInt (show σ262 55 31 = (σ 55 31) from ((f265 31 (by decide)).trans (congrFun (f54 55 (by decide)) 31))))
      rw [show (σ 2 0).toInt = (σ 55 6).toInt from by omega] at k257
      rw [show σ52 56 = σ 56 from (f54 56 (by decide)), show (σ52 55 6).toInt = (σ 55 6).toInt from by omega] at k301
      have p343 := hr0.bowler k257 k301 (by omega) (by omega) (show (σ262 55 6).toInt = (σ 55 6).toInt + 1 from by omega)
      exact ih x303 σ262 τ _ _ ls (by have h9 := tx303; omega) ⟨I304, I305, I306, I307, I308, I309, I310, I311, I312, I313, I314, I266, I267, I315, I316, I317, I318, I319, I320, I321, I322, I323, p324, p325, (by omega), (by omega), (by omega), (by omega), (by omega), (by omega), (by omega), (by omega), (by omega), (by omega), (by omega), (show jNumP (σ262 3) (σ262 56) (σ262 6) (σ262 57) (σ262 7) (σ262 58) (σ262 8) (σ262 59) (σ262 55 6).toInt (σ262 55 4).toInt by rw [show σ262 3 = σ52 3 from (f264 3 (by decide)), show σ262 6 = σ 6 from ((f264 6 (by decide)).trans (f54 6 (by decide))), show σ262 57 = σ 57 from ((f264 57 (by decide)).trans (f54 57 (by decide))), show σ262 7 = σ 7 from ((f264 7 (by decide)).trans (f54 7 (by decide))), show σ262 58 = σ 58 from ((f264 58 (by decide)).trans (f54 58 (by decide))), show σ262 8 = σ 8 from ((f264 8 (by decide)).trans (f54 8 (by decide))), show σ262 59 = σ 59 from ((f264 59 (by decide)).trans (f54 59 (by decide))), show (σ262 55 4).toInt = (σ 55 4).toInt from by omega]; exact p343), (show jOvP (σ262 56) (σ262 57) (σ262 58) (σ262 59) (σ262 55 4).toInt by rw [show σ262 57 = σ 57 from ((f264 57 (by decide)).trans (f54 57 (by decide))), show σ262 58 = σ 58 from ((f264 58 (by decide)).trans (f54 58 (by decide))), show σ262 59 = σ 59 from ((f264 59 (by decide)).trans (f54 59 (by decide))), show (σ262 55 4).toInt = (σ 55 4).toInt from by omega]; exact (hr1.bowler k301 (by omega) ⟨by omega, by omega⟩)), (show jTp (σ262 10) (σ262 63) (σ262 55 15).toInt by rw [show σ262 10 = σ 10 from ((f264 10 (by decide)).trans (f54 10 (by decide))), show σ262 63 = σ 63 from ((f264 63 (by decide)).trans (f54 63 (by decide)))]; exact hr2.le (by omega)), (show jSo (σ262 17) (σ262 62) (σ262 16 0).toInt by rw [show σ262 17 = σ 17 from ((f264 17 (by decide)).trans (f54 17 (by decide))), show σ262 62 = σ 62 from ((f264 62 (by decide)).trans (f54 62 (by decide))), show (σ262 16 0).toInt = (σ 16 0).toInt from by omega]; exact hr3), (show jShP (σ262 51) (σ262 52) (σ262 53) (σ262 86) (σ262 87) (σ262 55 32).toInt by rw [show σ262 51 = σ 51 from ((f264 51 (by decide)).trans (f54 51 (by decide))), show σ262 52 = σ 52 from ((f264 52 (by decide)).trans (f54 52 (by decide))), show σ262 53 = σ 53 from ((f264 53 (by decide)).trans (f54 53 (by decide))), show σ262 86 = σ 86 from ((f264 86 (by decide)).trans (f54 86 (by decide))), show σ262 87 = σ 87 from ((f264 87 (by decide)).trans (f54 87 (by decide)))]; exact (hr4.up (by omega) (by omega))), (show jEl (σ262 51) (σ262 52) (τ 54) (τ 88) by rw [show σ262 51 = σ 51 from ((f264 51 (by decide)).trans (f54 51 (by decide))), show σ262 52 = σ 52 from ((f264 52 (by decide)).trans (f54 52 (by decide)))]; exact hr5), (show jByP (σ262 51) (σ262 52) (τ 54) by rw [show σ262 51 = σ 51 from ((f264 51 (by decide)).trans (f54 51 (by decide))), show σ262 52 = σ 52 from ((f264 52 (by decide)).trans (f54 52 (by decide)))]; exact hr6), (show jBk (σ262 48) (σ262 80) (σ262 49) (σ262 81) (σ262 55 47).toInt by rw [show σ262 48 = σ 48 from ((f264 48 (by decide)).trans (f54 48 (by decide))), show σ262 49 = σ 49 from ((f264 49 (by decide)).trans (f54 49 (by decide))), show σ262 80 = σ 80 from ((f264 80 (by decide)).trans (f54 80 (by decide))), show σ262 81 = σ 81 from ((f264 81 (by decide)).trans (f54 81 (by decide))), show (σ262 55 47).toInt = (σ 55 47).toInt from by omega]; exact hr7)⟩ hP hS (lv_sub hl [0, 1, 2, 3] rfl)
set_option maxHeartbeats 4000000 in
set_option maxRecDepth 100000 in
theorem law_case_1 {p : Program} {e : Env} {s : State} {m : MethodId} {below : List Frame} {meth : Method} {c : Code} (l : Launch) {b L : Nat} {xs : Nat → Int32} {D : va_G} {cI cL : ClassId} {ad zz : Nat → Nat} (C0 : lw_At p s m meth c b L xs) (hJ : jD ad) (hA : ∀ q, jA ad q → s.heap.size ≤ q) (hK : jK D cI cL s) (hZ : jZ zz (fun q : Nat => s.heap.size ≤ q) s s.heap) {x0 : Int32} (hx0 : 0 ≤ x0.toInt) (hxL : x0.toInt + 6 ≤ (L : Int)) (hL : L ≤ 384) {σ : Nat → Nat → Int32} {τ : Nat → Nat → Int64} {H : Heap} {locs : List Loc} (hS : va_S (fun q : Nat => s.heap.size ≤ q) s.heap H locs) {ls : Array Slot} (hAll : jAll σ τ) (hP : jH D cI cL ad σ τ H) (hl : lv_has ls 4 [(3, .int x0), (2, .ref (ad 55)), (1, .ref (ad 0)), (0, .ref b)]) (ih : ∀ (x1 : Int32) (σ : Nat → Nat → Int32) (τ : Nat → Nat → Int64) (H : Heap) (locs : List Loc) (ls : Array Slot), x1.toInt = x0.toInt + 6 → jAll σ τ → jH D cI cL ad σ τ H → va_S (fun q : Nat => s.heap.size ≤ q) s.heap H locs → lv_has ls 4 [(3, .int x1), (2, .ref (ad 55)), (1, .ref (ad 0)), (0, .ref b)] → W p l e room_1 s m #[Value.ref b] below meth c H locs 90 348600 (lw_Z below #[Value.ref b] s) (F0 m 18 ls [])) : W p l e room_1 s m #[Value.ref b] below meth c H locs 90 348600 (lw_Z below #[Value.ref b] s) (F0 m 239 ls []) := by
  obtain ⟨hx, hb, hr, hml, hown, hts0, hX, hbl, hlocks, hgv⟩ := C0
  have hts : ∀ w ∈ wsL_law, w.before #[Value.ref b] s = true := fun w h => hts0 w (wsL_law_in w h)
  have hbA : ¬ (fun q : Nat => s.heap.size ≤ q) b := Nat.not_le.mpr hbl
  have hown : s.vm.findClass RL = some m.cls := hown
  obtain ⟨hI2, hI9, hI12, hI16, hI18, hI22, hI31, hI38, hI43, hI47, hI50, hI101, hI102, hI103, hI104, hI105, hI106, hI107, hI109, hI110, hI111, hI119, hs_jKept, hs_jBook, ht0, ht1, ht2, ht3, ht4, ht5, ht6, ht7, ht8, ht9, ht10, hr0, hr1, hr2, hr3, hr4, hr5, hr6, hr7⟩ := hAll
  have hL9 : (L : Int) ≤ 384 := by omega
  obtain ⟨i1, i2, i3, i4, i5, w6⟩ : (0 ≤ (σ 2 0).toInt ∧ (σ 2 0).toInt ≤ 4) ∧ (0 ≤ (σ 2 1).toInt ∧ (σ 2 1).toInt ≤ 3) ∧ (0 ≤ (σ 2 2).toInt) ∧ (0 ≤ (σ 2 3).toInt) ∧ ((σ 2 2).toInt + (σ 2 3).toInt ≤ 40) ∧ (∀ k : Nat, k < 40 → 0 ≤ (σ 6 k).toInt ∧ (σ 6 k).toInt ≤ 67) := id hI2
  obtain ⟨i7, w8, w9⟩ : (0 ≤ (σ 9 0).toInt ∧ (σ 9 0).toInt ≤ 80) ∧ (∀ k : Nat, k < 80 → 0 ≤ (σ 10 k).toInt ∧ (σ 10 k).toInt ≤ 255) ∧ (∀ k : Nat, k < 8 → 0 ≤ (σ 11 k).toInt ∧ (σ 11 k).toInt ≤ 3) := id hI9
  obtain ⟨i10, i11, i12, w13⟩ : (1 ≤ (σ 16 0).toInt ∧ (σ 16 0).toInt ≤ 8) ∧ (1 ≤ (σ 16 1).toInt ∧ (σ 16 1).toInt ≤ 12) ∧ (0 ≤ (σ 16 2).toInt ∧ (σ 16 2).toInt ≤ 999) ∧ (∀ k : Nat, k < 8 → 0 ≤ (σ 17 k).toInt ∧ (σ 17 k).toInt ≤ 3) := id hI16
  obtain ⟨i14, i15, w16⟩ : (0 ≤ (σ 38 0).toInt ∧ (σ 38 0).toInt ≤ 20) ∧ (0 ≤ (σ 38 1).toInt ∧ (σ 38 1).toInt ≤ 1000) ∧ (∀ k : Nat, k < 20 → 0 ≤ (σ 39 k).toInt ∧ (σ 39 k).toInt ≤ 6) := id hI38
  obtain ⟨i17, w18, w19⟩ : (0 ≤ (σ 47 0).toInt ∧ (σ 47 0).toInt ≤ 12) ∧ (∀ k : Nat, k < 12 → 0 ≤ (σ 48 k).toInt ∧ (σ 48 k).toInt ≤ 3) ∧ (∀ k : Nat, k < 12 → 0 ≤ (σ 49 k).toInt ∧ (σ 49 k).toInt ≤ 1) := id hI47
  have w20 : ∀ k : Nat, k < 6 → 0 ≤ (σ 52 k).toInt ∧ (σ 52 k).toInt ≤ 60 := hI50
  obtain ⟨i21, i22, i23, w24, w25, w26, w27⟩ : (0 ≤ (σ 55 5).toInt) ∧ ((σ 55 5).toInt ≤ (σ 55 4).toInt) ∧ ((σ 55 4).toInt ≤ 40) ∧ (∀ k : Nat, k < 68 → (-200) ≤ (σ 56 k).toInt ∧ (σ 56 k).toInt ≤ 500) ∧ (∀ k : Nat, k < 40 → 0 ≤ (σ 57 k).toInt ∧ (σ 57 k).toInt ≤ 67) ∧ (∀ k : Nat, k < 40 → (-200) ≤ (σ 58 k).toInt ∧ (σ 58 k).toInt ≤ 500) ∧ (∀ k : Nat, k < 40 → (-200) ≤ (σ 59 k).toInt ∧ (σ 59 k).toInt ≤ 500) := id hI101
  obtain ⟨i28, w29, w30⟩ : (0 ≤ (σ 55 6).toInt ∧ (σ 55 6).toInt ≤ 4) ∧ (∀ k : Nat, k < 4 → 0 ≤ (σ 60 k).toInt ∧ (σ 60 k).toInt ≤ 50) ∧ (∀ k : Nat, k < 4 → 0 ≤ (σ 61 k).toInt ∧ (σ 61 k).toInt ≤ 20) := id hI102
  obtain ⟨i31, i32, i33, w34, w35⟩ : (1 ≤ (σ 55 10).toInt ∧ (σ 55 10).toInt ≤ 8) ∧ (1 ≤ (σ 55 12).toInt ∧ (σ 55 12).toInt ≤ 12) ∧ (0 ≤ (σ 55 13).toInt ∧ (σ 55 13).toInt ≤ 999) ∧ (∀ k : Nat, k < 8 → 0 ≤ (σ 62 k).toInt ∧ (σ 62 k).toInt ≤ 3) ∧ (∀ k : Nat, k < 8 → 0 ≤ (σ 67 k).toInt ∧ (σ 67 k).toInt ≤ 3) := id hI104
  obtain ⟨i36, w37⟩ : (0 ≤ (σ 55 15).toInt ∧ (σ 55 15).toInt ≤ 80) ∧ (∀ k : Nat, k < 2 → (-1) ≤ (σ 65 k).toInt ∧ (σ 65 k).toInt ≤ 80) := id hI105
  obtain ⟨i38, w39, w40, w41⟩ : (0 ≤ (σ 55 32).toInt ∧ (σ 55 32).toInt ≤ 20) ∧ (∀ k : Nat, k < 20 → 0 ≤ (σ 70 k).toInt ∧ (σ 70 k).toInt ≤ 6) ∧ (∀ k : Nat, k < 20 → 0 ≤ (σ 71 k).toInt ∧ (σ 71 k).toInt ≤ 8) ∧ (∀ k : Nat, k < 160 → 0 ≤ (σ 72 k).toInt ∧ (σ 72 k).toInt ≤ 3) := id hI106
  obtain ⟨i42, i43, w44⟩ : (0 ≤ (σ 55 47).toInt ∧ (σ 55 47).toInt ≤ 12) ∧ ((σ 55 47).toInt ≤ (σ 55 12).toInt) ∧ (∀ k : Nat, k < 12 → 0 ≤ (σ 80 k).toInt ∧ (σ 80 k).toInt ≤ 3) := id hI107
  refine lv_aload_n hx hb dL_law_239 rfl (lv_at hl 2 rfl) ?_
  refine lv_aload_n hx hb dL_law_240 rfl (lv_at hl 3 rfl) ?_
  refine lv_iload_n hx hb dL_law_241 rfl (lv_at hl 0 rfl) ?_
  refine lv_iconst (v := 1) hx hb dL_law_242 (by decide) ?_
  have g45 := jrg (rfl : x0.toInt = x0.toInt)
  refine lv_iadd hx hb dL_law_243 ?_
  refine lv_topi (fun x46 ex46 => ?_)
  have tx46 : x46.toInt = x0.toInt + 1 := (jadd ex46 rfl jz_1 (by omega) (by omega)).trans (by omega)
  refine va_sld hx hb hX hbl hbA hS (jin tx46 (by omega) (by omega)) dL_law_244 ?_
  have g47 := jrg (rfl : (xs x46.toNatClampNeg).toInt = (xs x46.toNatClampNeg).toInt)
  refine lv_aload_n hx hb dL_law_245 rfl (lv_at hl 3 rfl) ?_
  refine lv_iload_n hx hb dL_law_246 rfl (lv_at hl 0 rfl) ?_
  refine lv_iconst (v := 2) hx hb dL_law_247 (by decide) ?_
  refine lv_iadd hx hb dL_law_248 ?_
  refine lv_topi (fun x48 ex48 => ?_)
  have tx48 : x48.toInt = x0.toInt + 2 := (jadd ex48 rfl jz_2 (by omega) (by omega)).trans (by omega)
  refine va_sld hx hb hX hbl hbA hS (jin tx48 (by omega) (by omega)) dL_law_249 ?_
  have g49 := jrg (rfl : (xs x48.toNatClampNeg).toInt = (xs x48.toNatClampNeg).toInt)
  refine lv_aload_n hx hb dL_law_250 rfl (lv_at hl 3 rfl) ?_
  refine lv_iload_n hx hb dL_law_251 rfl (lv_at hl 0 rfl) ?_
  refine lv_iconst (v := 3) hx hb dL_law_252 (by decide) ?_
  refine lv_iadd hx hb dL_law_253 ?_
  refine lv_topi (fun x50 ex50 => ?_)
  have tx50 : x50.toInt = x0.toInt + 3 := (jadd ex50 rfl jz_3 (by omega) (by omega)).trans (by omega)
  refine va_sld hx hb hX hbl hbA hS (jin tx50 (by omega) (by omega)) dL_law_254 ?_
  have g51 := jrg (rfl : (xs x50.toNatClampNeg).toInt = (xs x50.toNatClampNeg).toInt)
  refine jcallV (As := [.int (xs x46.toNatClampNeg), .int (xs x48.toNatClampNeg), .int (xs x50.toNatClampNeg)]) (rest := []) ⟨hx, hb, hml, hown, hts⟩ hK hP hA hS hZ (c_X11_edge l D cI cL ad zz hJ σ τ (xs x46.toNatClampNeg) ((xs x46.toNatClampNeg).toInt) rfl (xs x48.toNatClampNeg) ((xs x48.toNatClampNeg).toInt) rfl (xs x50.toNatClampNeg) ((xs x50.toNatClampNeg).toInt) rfl hI2) cw_RL_18 (jc_0 cI cL ad σ τ) rfl ⟨Nat.le_of_ble_eq_true rfl, Nat.le_of_ble_eq_true rfl⟩ rfl rfl rfl hl.1 rfl (Nat.le_of_ble_eq_true rfl) dL_law_255 ⟨Nat.le_of_ble_eq_true rfl, Nat.le_of_ble_eq_true rfl⟩ (fun r53 σ52 τ52 H locs h52 hP hS => ?_)
  obtain ⟨rfl, f54, f55, I56, h52⟩ := h52
  obtain ⟨i58, i59, i60, i61, i62, w63⟩ : (0 ≤ (σ52 2 0).toInt ∧ (σ52 2 0).toInt ≤ 4) ∧ (0 ≤ (σ52 2 1).toInt ∧ (σ52 2 1).toInt ≤ 3) ∧ (0 ≤ (σ52 2 2).toInt) ∧ (0 ≤ (σ52 2 3).toInt) ∧ ((σ52 2 2).toInt + (σ52 2 3).toInt ≤ 40) ∧ (∀ k : Nat, k < 40 → 0 ≤ (σ52 6 k).toInt ∧ (σ52 6 k).toInt ≤ 67) := id I56
  have z64 : (σ52 2 0).toInt = (σ 2 0).toInt := (congrArg Int32.toInt (show σ52 2 0 = (σ 2 0) from (f55 0 (by decide))))
  have z65 : (σ52 2 1).toInt = (σ 2 1).toInt := (congrArg Int32.toInt (show σ52 2 1 = (σ 2 1) from (f55 1 (by decide))))
  rcases h52 with h66 | h67
  · obtain ⟨q72, k68, k69, k70, k71⟩ := h66
    have q72 := q72.symm
    subst q72
    refine lv_pop hx hb dL_law_258 rfl ?_
    refine lv_aload_n hx hb dL_law_259 rfl (lv_at hl 1 rfl) ?_
    refine lv_aload_n hx hb dL_law_260 rfl (lv_at hl 3 rfl) ?_
    refine lv_iload_n hx hb dL_law_261 rfl (lv_at hl 0 rfl) ?_
    refine lv_iconst (v := 1) hx hb dL_law_262 (by decide) ?_
    refine lv_iadd hx hb dL_law_263 ?_
    refine jtopr ex46.symm ?_
    refine va_sld hx hb hX hbl hbA hS (jin tx46 (by omega) (by omega)) dL_law_264 ?_
    refine lv_aload_n hx hb dL_law_265 rfl (lv_at hl 3 rfl) ?_
    refine lv_iload_n hx hb dL_law_266 rfl (lv_at hl 0 rfl) ?_
    refine lv_iconst (v := 2) hx hb dL_law_267 (by decide) ?_
    refine lv_iadd hx hb dL_law_268 ?_
    refine jtopr ex48.symm ?_
    refine va_sld hx hb hX hbl hbA hS (jin tx48 (by omega) (by omega)) dL_law_269 ?_
    refine lv_aload_n hx hb dL_law_270 rfl (lv_at hl 3 rfl) ?_
    refine lv_iload_n hx hb dL_law_271 rfl (lv_at hl 0 rfl) ?_
    refine lv_iconst (v := 3) hx hb dL_law_272 (by decide) ?_
    refine lv_iadd hx hb dL_law_273 ?_
    refine jtopr ex50.symm ?_
    refine va_sld hx hb hX hbl hbA hS (jin tx50 (by omega) (by omega)) dL_law_274 ?_
    have I73 : jI101 σ52 := jI101_fr (congrFun (f54 55 (by decide)) 4) (congrFun (f54 55 (by decide)) 5) (f54 56 (by decide)) (f54 57 (by decide)) (f54 58 (by decide)) (f54 59 (by decide)) hI101
    have I74 : jI102 σ52 := jI102_fr (congrFun (f54 55 (by decide)) 6) (f54 60 (by decide)) (f54 61 (by decide)) hI102
    have z75 : (σ52 55 5).toInt = (σ 55 5).toInt := (congrArg Int32.toInt (show σ52 55 5 = (σ 55 5) from (congrFun (f54 55 (by decide)) 5)))
    have z76 : (σ52 55 4).toInt = (σ 55 4).toInt := (congrArg Int32.toInt (show σ52 55 4 = (σ 55 4) from (congrFun (f54 55 (by decide)) 4)))
    refine jcallV (As := [.int (xs x46.toNatClampNeg), .int (xs x48.toNatClampNeg), .int (xs x50.toNatClampNeg)]) (rest := []) ⟨hx, hb, hml, hown, hts⟩ hK hP hA hS hZ (c_X12_edge l D cI cL ad zz hJ σ52 τ (xs x46.toNatClampNeg) ((xs x46.toNatClampNeg).toInt) rfl (xs x48.toNatClampNeg) ((xs x48.toNatClampNeg).toInt) rfl (xs x50.toNatClampNeg) ((xs x50.toNatClampNeg).toInt) rfl I73 I74) cw_RL_21 (jc_55 cI cL ad σ52 τ) rfl ⟨Nat.le_of_ble_eq_true rfl, Nat.le_of_ble_eq_true rfl⟩ rfl rfl rfl hl.1 rfl (Nat.le_of_ble_eq_true rfl) dL_law_275 ⟨Nat.le_of_ble_eq_true rfl, Nat.le_of_ble_eq_true rfl⟩ (fun r78 σ77 τ77 H locs h77 hP hS => ?_)
    obtain ⟨rfl, f79, f80, I81, h77⟩ := h77
    obtain ⟨i83, i84, i85, w86, w87, w88, w89⟩ : (0 ≤ (σ77 55 5).toInt) ∧ ((σ77 55 5).toInt ≤ (σ77 55 4).toInt) ∧ ((σ77 55 4).toInt ≤ 40) ∧ (∀ k : Nat, k < 68 → (-200) ≤ (σ77 56 k).toInt ∧ (σ77 56 k).toInt ≤ 500) ∧ (∀ k : Nat, k < 40 → 0 ≤ (σ77 57 k).toInt ∧ (σ77 57 k).toInt ≤ 67) ∧ (∀ k : Nat, k < 40 → (-200) ≤ (σ77 58 k).toInt ∧ (σ77 58 k).toInt ≤ 500) ∧ (∀ k : Nat, k < 40 → (-200) ≤ (σ77 59 k).toInt ∧ (σ77 59 k).toInt ≤ 500) := id I81
    rcases h77 with h90 | h91
    · obtain ⟨q96, k92, k93, k94, k95⟩ := h90
      have q96 := q96.symm
      subst q96
      have z97 : (σ52 55 6).toInt = (σ 55 6).toInt := (congrArg Int32.toInt (show σ52 55 6 = (σ 55 6) from (congrFun (f54 55 (by decide)) 6)))
      rw [show (σ52 55 6).toInt = (σ 2 0).toInt from by omega] at k94
      refine lv_pop hx hb dL_law_278 rfl ?_
      refine lv_goto (tgt := 1357) hx hb dL_law_279 (by decide) ?_
      obtain ⟨x98, ex98⟩ : ∃ y : Int32, y = x0 + 6 := ⟨_, rfl⟩
      have tx98 : x98.toInt = x0.toInt + 6 := (jadd ex98 rfl jz_6 (by omega) (by omega)).trans (by omega)
      refine lv_iinc (v := x98) (lv' := [(3, .int x98), (2, .ref (ad 55)), (1, .ref (ad 0)), (0, .ref b)]) hx hb dL_law_1357 hl (k := 0) rfl (by rw [ex98]; rfl) (by decide) rfl (fun ls hl => ?_)
      refine lv_goto (tgt := 18) hx hb dL_law_1360 (by decide) ?_
      have I99 : jI2 σ77 := jI2_fr (congrFun (f79 2 (by decide)) 0) (congrFun (f79 2 (by decide)) 1) (congrFun (f79 2 (by decide)) 2) (congrFun (f79 2 (by decide)) 3) (f79 6 (by decide)) I56
      have I100 : jI9 σ77 := jI9_fr ((congrFun (f79 9 (by decide)) 0).trans (congrFun (f54 9 (by decide)) 0)) ((f79 10 (by decide)).trans (f54 10 (by decide))) ((f79 11 (by decide)).trans (f54 11 (by decide))) hI9
      have I101 : jI12 σ77 := jI12_fr ((congrFun (f79 12 (by decide)) 0).trans (congrFun (f54 12 (by decide)) 0)) ((f79 13 (by decide)).trans (f54 13 (by decide))) hI12
      have I102 : jI16 σ77 := jI16_fr ((congrFun (f79 16 (by decide)) 0).trans (congrFun (f54 16 (by decide)) 0)) ((congrFun (f79 16 (by decide)) 1).trans (congrFun (f54 16 (by decide)) 1)) ((congrFun (f79 16 (by decide)) 2).trans (congrFun (f54 16 (by decide)) 2)) ((f79 17 (by decide)).trans (f54 17 (by decide))) hI16
      have I103 : jI18 σ77 := jI18_fr ((congrFun (f79 18 (by decide)) 0).trans (congrFun (f54 18 (by decide)) 0)) ((f79 19 (by decide)).trans (f54 19 (by decide))) hI18
      have I104 : jI22 σ77 := jI22_fr ((congrFun (f79 22 (by decide)) 0).trans (congrFun (f54 22 (by decide)) 0)) ((f79 23 (by decide)).trans (f54 23 (by decide))) hI22
      have I105 : jI31 σ77 := jI31_fr ((congrFun (f79 31 (by decide)) 8).trans (congrFun (f54 31 (by decide)) 8)) ((f79 33 (by decide)).trans (f54 33 (by decide))) ((f79 36 (by decide)).trans (f54 36 (by decide))) hI31
      have I106 : jI38 σ77 := jI38_fr ((congrFun (f79 38 (by decide)) 0).trans (congrFun (f54 38 (by decide)) 0)) ((congrFun (f79 38 (by decide)) 1).trans (congrFun (f54 38 (by decide)) 1)) ((f79 39 (by decide)).trans (f54 39 (by decide))) hI38
      have I107 : jI43 σ77 := jI43_fr ((congrFun (f79 43 (by decide)) 8).trans (congrFun (f54 43 (by decide)) 8)) hI43
      have I108 : jI47 σ77 := jI47_fr ((congrFun (f79 47 (by decide)) 0).trans (congrFun (f54 47 (by decide)) 0)) ((f79 48 (by decide)).trans (f54 48 (by decide))) ((f79 49 (by decide)).trans (f54 49 (by decide))) hI47
      have I109 : jI50 σ77 := jI50_fr ((f79 52 (by decide)).trans (f54 52 (by decide))) hI50
      have I110 : jI102 σ77 := jI102_fr (f80 6 (by decide)) (f79 60 (by decide)) (f79 61 (by decide)) I74
      have I111 : jI103 σ77 := jI103_fr ((f80 9 (by decide)).trans (congrFun (f54 55 (by decide)) 9)) hI103
      have I112 : jI104 σ77 := jI104_fr ((f80 10 (by decide)).trans (congrFun (f54 55 (by decide)) 10)) ((f80 12 (by decide)).trans (congrFun (f54 55 (by decide)) 12)) ((f80 13 (by decide)).trans (congrFun (f54 55 (by decide)) 13)) ((f79 62 (by decide)).trans (f54 62 (by decide))) ((f79 67 (by decide)).trans (f54 67 (by decide))) hI104
      have I113 : jI105 σ77 := jI105_fr ((f80 15 (by decide)).trans (congrFun (f54 55 (by decide)) 15)) ((f79 65 (by decide)).trans (f54 65 (by decide))) hI105
      have I114 : jI106 σ77 := jI106_fr ((f80 32 (by decide)).trans (congrFun (f54 55 (by decide)) 32)) ((f79 70 (by decide)).trans (f54 70 (by decide))) ((f79 71 (by decide)).trans (f54 71 (by decide))) ((f79 72 (by decide)).trans (f54 72 (by decide))) hI106
      have I115 : jI107 σ77 := jI107_fr ((f80 12 (by decide)).trans (congrFun (f54 55 (by decide)) 12)) ((f80 47 (by decide)).trans (congrFun (f54 55 (by decide)) 47)) ((f79 80 (by decide)).trans (f54 80 (by decide))) hI107
      have I116 : jI109 σ77 := jI109_fr ((f80 50 (by decide)).trans (congrFun (f54 55 (by decide)) 50)) hI109
      have I117 : jI110 σ77 := jI110_fr ((f79 86 (by decide)).trans (f54 86 (by decide))) ((f79 87 (by decide)).trans (f54 87 (by decide))) hI110
      have I118 : jI111 σ77 := jI111_fr ((f79 79 (by decide)).trans (f54 79 (by decide))) hI111
      have I119 : jI119 σ77 := jI119_fr ((f79 68 (by decide)).trans (f54 68 (by decide))) hI119
      have p120 : jKept σ77 := jKept.fr ((f79 75 (by decide)).trans (f54 75 (by decide))) ((f79 76 (by decide)).trans (f54 76 (by decide))) ((f79 77 (by decide)).trans (f54 77 (by decide))) hs_jKept
      have p121 : jBook σ77 := jBook.fr ((f80 47 (by decide)).trans (congrFun (f54 55 (by decide)) 47)) ((f80 10 (by decide)).trans (congrFun (f54 55 (by decide)) 10)) ((f79 81 (by decide)).trans (f54 81 (by decide))) hs_jBook
      have z122 : (σ77 2 0).toInt = (σ 2 0).toInt := (congrArg Int32.toInt (show σ77 2 0 = (σ 2 0) from ((congrFun (f79 2 (by decide)) 0).trans (f55 0 (by decide)))))
      have z123 : (σ77 55 6).toInt = (σ 55 6).toInt := (congrArg Int32.toInt (show σ77 55 6 = (σ 55 6) from ((f80 6 (by decide)).trans (congrFun (f54 55 (by decide)) 6))))
      have z124 : (σ77 2 2).toInt = (σ52 2 2).toInt := (congrArg Int32.toInt (show σ77 2 2 = (σ52 2 2) from (congrFun (f79 2 (by decide)) 2)))
      have z125 : (σ77 2 3).toInt = (σ52 2 3).toInt := (congrArg Int32.toInt (show σ77 2 3 = (σ52 2 3) from (congrFun (f79 2 (by decide)) 3)))
      have z126 : (σ77 9 0).toInt = (σ 9 0).toInt := (congrArg Int32.toInt (show σ77 9 0 = (σ 9 0) from ((congrFun (f79 9 (by decide)) 0).trans (congrFun (f54 9 (by decide)) 0))))
      have z127 : (σ77 55 15).toInt = (σ 55 15).toInt := (congrArg Int32.toInt (show σ77 55 15 = (σ 55 15) from ((f80 15 (by decide)).trans (congrFun (f54 55 (by decide)) 15))))
      have z128 : (σ77 16 0).toInt = (σ 16 0).toInt := (congrArg Int32.toInt (show σ77 16 0 = (σ 16 0) from ((congrFun (f79 16 (by decide)) 0).trans (congrFun (f54 16 (by decide)) 0))))
      have z129 : (σ77 55 10).toInt = (σ 55 10).toInt := (congrArg Int32.toInt (show σ77 55 10 = (σ 55 10) from ((f80 10 (by decide)).trans (congrFun (f54 55 (by decide)) 10))))
      have z130 : (σ77 16 1).toInt = (σ 16 1).toInt := (congrArg Int32.toInt (show σ77 16 1 = (σ 16 1) from ((congrFun (f79 16 (by decide)) 1).trans (congrFun (f54 16 (by decide)) 1))))
      have z131 : (σ77 55 12).toInt = (σ 55 12).toInt := (congrArg Int32.toInt (show σ77 55 12 = (σ 55 12) from ((f80 12 (by decide)).trans (congrFun (f54 55 (by decide)) 12))))
      have z132 : (σ77 16 2).toInt = (σ 16 2).toInt := (congrArg Int32.toInt (show σ77 16 2 = (σ 16 2) from ((congrFun (f79 16 (by decide)) 2).trans (congrFun (f54 16 (by decide)) 2))))
      have z133 : (σ77 55 13).toInt = (σ 55 13).toInt := (congrArg Int32.toInt (show σ77 55 13 = (σ 55 13) from ((f80 13 (by decide)).trans (congrFun (f54 55 (by decide)) 13))))
      have z134 : (σ77 38 0).toInt = (σ 38 0).toInt := (congrArg Int32.toInt (show σ77 38 0 = (σ 38 0) from ((congrFun (f79 38 (by decide)) 0).trans (congrFun (f54 38 (by decide)) 0))))
      have z135 : (σ77 55 32).toInt = (σ 55 32).toInt := (congrArg Int32.toInt (show σ77 55 32 = (σ 55 32) from ((f80 32 (by decide)).trans (congrFun (f54 55 (by decide)) 32))))
      have z136 : (σ77 47 0).toInt = (σ 47 0).toInt := (congrArg Int32.toInt (show σ77 47 0 = (σ 47 0) from ((congrFun (f79 47 (by decide)) 0).trans (congrFun (f54 47 (by decide)) 0))))
      have z137 : (σ77 55 47).toInt = (σ 55 47).toInt := (congrArg Int32.toInt (show σ77 55 47 = (σ 55 47) from ((f80 47 (by decide)).trans (congrFun (f54 55 (by decide)) 47))))
      have z138 : (σ77 55 30).toInt = (σ 55 30).toInt := (congrArg Int32.toInt (show σ77 55 30 = (σ 55 30) from ((f80 30 (by decide)).trans (congrFun (f54 55 (by decide)) 30))))
      have z139 : (σ77 55 31).toInt = (σ 55 31).toInt := (congrArg Int32.toInt (show σ77 55 31 = (σ 55 31) from ((f80 31 (by decide)).trans (congrFun (f54 55 (by decide)) 31))))
      exact ih x98 σ77 τ _ _ ls (by have h9 := tx98; omega) ⟨I99, I100, I101, I102, I103, I104, I105, I106, I107, I108, I109, I81, I110, I111, I112, I113, I114, I115, I116, I117, I118, I119, p120, p121, (by omega), (by omega), (by omega), (by omega), (by omega), (by omega), (by omega), (by omega), (by omega), (by omega), (by omega), (show jNumP (σ77 3) (σ77 56) (σ77 6) (σ77 57) (σ77 7) (σ77 58) (σ77 8) (σ77 59) (σ77 55 6).toInt (σ77 55 4).toInt by rw [show σ77 3 = σ 3 from ((f79 3 (by decide)).trans k71.1), show σ77 56 = σ 56 from (k95.1.trans (f54 56 (by decide))), show σ77 6 = σ 6 from ((f79 6 (by decide)).trans k71.2.1), show σ77 57 = σ 57 from (k95.2.1.trans (f54 57 (by decide))), show σ77 7 = σ 7 from ((f79 7 (by decide)).trans k71.2.2.1), show σ77 58 = σ 58 from (k95.2.2.1.trans (f54 58 (by decide))), show σ77 8 = σ 8 from ((f79 8 (by decide)).trans k71.2.2.2), show σ77 59 = σ 59 from (k95.2.2.2.trans (f54 59 (by decide))), show (σ77 55 6).toInt = (σ 55 6).toInt from by omega, show (σ77 55 4).toInt = (σ 55 4).toInt from by omega]; exact hr0), (show jOvP (σ77 56) (σ77 57) (σ77 58) (σ77 59) (σ77 55 4).toInt by rw [show σ77 56 = σ 56 from (k95.1.trans (f54 56 (by decide))), show σ77 57 = σ 57 from (k95.2.1.trans (f54 57 (by decide))), show σ77 58 = σ 58 from (k95.2.2.1.trans (f54 58 (by decide))), show σ77 59 = σ 59 from (k95.2.2.2.trans (f54 59 (by decide))), show (σ77 55 4).toInt = (σ 55 4).toInt from by omega]; exact hr1), (show jTp (σ77 10) (σ77 63) (σ77 55 15).toInt by rw [show σ77 10 = σ 10 from ((f79 10 (by decide)).trans (f54 10 (by decide))), show σ77 63 = σ 63 from ((f79 63 (by decide)).trans (f54 63 (by decide)))]; exact hr2.le (by omega)), (show jSo (σ77 17) (σ77 62) (σ77 16 0).toInt by rw [show σ77 17 = σ 17 from ((f79 17 (by decide)).trans (f54 17 (by decide))), show σ77 62 = σ 62 from ((f79 62 (by decide)).trans (f54 62 (by decide))), show (σ77 16 0).toInt = (σ 16 0).toInt from by omega]; exact hr3), (show jShP (σ77 51) (σ77 52) (σ77 53) (σ77 86) (σ77 87) (σ77 55 32).toInt by rw [show σ77 51 = σ 51 from ((f79 51 (by decide)).trans (f54 51 (by decide))), show σ77 52 = σ 52 from ((f79 52 (by decide)).trans (f54 52 (by decide))), show σ77 53 = σ 53 from ((f79 53 (by decide)).trans (f54 53 (by decide))), show σ77 86 = σ 86 from ((f79 86 (by decide)).trans (f54 86 (by decide))), show σ77 87 = σ 87 from ((f79 87 (by decide)).trans (f54 87 (by decide)))]; exact (hr4.up (by omega) (by omega))), (show jEl (σ77 51) (σ77 52) (τ 54) (τ 88) by rw [show σ77 51 = σ 51 from ((f79 51 (by decide)).trans (f54 51 (by decide))), show σ77 52 = σ 52 from ((f79 52 (by decide)).trans (f54 52 (by decide)))]; exact hr5), (show jByP (σ77 51) (σ77 52) (τ 54) by rw [show σ77 51 = σ 51 from ((f79 51 (by decide)).trans (f54 51 (by decide))), show σ77 52 = σ 52 from ((f79 52 (by decide)).trans (f54 52 (by decide)))]; exact hr6), (show jBk (σ77 48) (σ77 80) (σ77 49) (σ77 81) (σ77 55 47).toInt by rw [show σ77 48 = σ 48 from ((f79 48 (by decide)).trans (f54 48 (by decide))), show σ77 49 = σ 49 from ((f79 49 (by decide)).trans (f54 49 (by decide))), show σ77 80 = σ 80 from ((f79 80 (by decide)).trans (f54 80 (by decide))), show σ77 81 = σ 81 from ((f79 81 (by decide)).trans (f54 81 (by decide))), show (σ77 55 47).toInt = (σ 55 47).toInt from by omega]; exact hr7)⟩ hP hS (lv_sub hl [0, 1, 2, 3] rfl)
    · obtain ⟨q142, k141⟩ := h91
      have z143 : (σ52 55 6).toInt = (σ 55 6).toInt := (congrArg Int32.toInt (show σ52 55 6 = (σ 55 6) from (congrFun (f54 55 (by decide)) 6)))
      rw [show (σ52 55 6).toInt = (σ 2 0).toInt from by omega] at k141
      exact absurd k141.1 k70
  · obtain ⟨q145, k144⟩ := h67
    refine lv_pop hx hb dL_law_258 rfl ?_
    refine lv_aload_n hx hb dL_law_259 rfl (lv_at hl 1 rfl) ?_
    refine lv_aload_n hx hb dL_law_260 rfl (lv_at hl 3 rfl) ?_
    refine lv_iload_n hx hb dL_law_261 rfl (lv_at hl 0 rfl) ?_
    refine lv_iconst (v := 1) hx hb dL_law_262 (by decide) ?_
    refine lv_iadd hx hb dL_law_263 ?_
    refine jtopr ex46.symm ?_
    refine va_sld hx hb hX hbl hbA hS (jin tx46 (by omega) (by omega)) dL_law_264 ?_
    refine lv_aload_n hx hb dL_law_265 rfl (lv_at hl 3 rfl) ?_
    refine lv_iload_n hx hb dL_law_266 rfl (lv_at hl 0 rfl) ?_
    refine lv_iconst (v := 2) hx hb dL_law_267 (by decide) ?_
    refine lv_iadd hx hb dL_law_268 ?_
    refine jtopr ex48.symm ?_
    refine va_sld hx hb hX hbl hbA hS (jin tx48 (by omega) (by omega)) dL_law_269 ?_
    refine lv_aload_n hx hb dL_law_270 rfl (lv_at hl 3 rfl) ?_
    refine lv_iload_n hx hb dL_law_271 rfl (lv_at hl 0 rfl) ?_
    refine lv_iconst (v := 3) hx hb dL_law_272 (by decide) ?_
    refine lv_iadd hx hb dL_law_273 ?_
    refine jtopr ex50.symm ?_
    refine va_sld hx hb hX hbl hbA hS (jin tx50 (by omega) (by omega)) dL_law_274 ?_
    have I146 : jI101 σ52 := jI101_fr (congrFun (f54 55 (by decide)) 4) (congrFun (f54 55 (by decide)) 5) (f54 56 (by decide)) (f54 57 (by decide)) (f54 58 (by decide)) (f54 59 (by decide)) hI101
    have I147 : jI102 σ52 := jI102_fr (congrFun (f54 55 (by decide)) 6) (f54 60 (by decide)) (f54 61 (by decide)) hI102
    have z148 : (σ52 55 5).toInt = (σ 55 5).toInt := (congrArg Int32.toInt (show σ52 55 5 = (σ 55 5) from (congrFun (f54 55 (by decide)) 5)))
    have z149 : (σ52 55 4).toInt = (σ 55 4).toInt := (congrArg Int32.toInt (show σ52 55 4 = (σ 55 4) from (congrFun (f54 55 (by decide)) 4)))
    refine jcallV (As := [.int (xs x46.toNatClampNeg), .int (xs x48.toNatClampNeg), .int (xs x50.toNatClampNeg)]) (rest := []) ⟨hx, hb, hml, hown, hts⟩ hK hP hA hS hZ (c_X12_edge l D cI cL ad zz hJ σ52 τ (xs x46.toNatClampNeg) ((xs x46.toNatClampNeg).toInt) rfl (xs x48.toNatClampNeg) ((xs x48.toNatClampNeg).toInt) rfl (xs x50.toNatClampNeg) ((xs x50.toNatClampNeg).toInt) rfl I146 I147) cw_RL_21 (jc_55 cI cL ad σ52 τ) rfl ⟨Nat.le_of_ble_eq_true rfl, Nat.le_of_ble_eq_true rfl⟩ rfl rfl rfl hl.1 rfl (Nat.le_of_ble_eq_true rfl) dL_law_275 ⟨Nat.le_of_ble_eq_true rfl, Nat.le_of_ble_eq_true rfl⟩ (fun r151 σ150 τ150 H locs h150 hP hS => ?_)
    obtain ⟨rfl, f152, f153, I154, h150⟩ := h150
    obtain ⟨i156, i157, i158, w159, w160, w161, w162⟩ : (0 ≤ (σ150 55 5).toInt) ∧ ((σ150 55 5).toInt ≤ (σ150 55 4).toInt) ∧ ((σ150 55 4).toInt ≤ 40) ∧ (∀ k : Nat, k < 68 → (-200) ≤ (σ150 56 k).toInt ∧ (σ150 56 k).toInt ≤ 500) ∧ (∀ k : Nat, k < 40 → 0 ≤ (σ150 57 k).toInt ∧ (σ150 57 k).toInt ≤ 67) ∧ (∀ k : Nat, k < 40 → (-200) ≤ (σ150 58 k).toInt ∧ (σ150 58 k).toInt ≤ 500) ∧ (∀ k : Nat, k < 40 → (-200) ≤ (σ150 59 k).toInt ∧ (σ150 59 k).toInt ≤ 500) := id I154
    rcases h150 with h163 | h164
    · obtain ⟨q169, k165, k166, k167, k168⟩ := h163
      have q169 := q169.symm
      subst q169
      have z170 : (σ52 55 6).toInt = (σ 55 6).toInt := (congrArg Int32.toInt (show σ52 55 6 = (σ 55 6) from (congrFun (f54 55 (by decide)) 6)))
      rw [show (σ52 55 6).toInt = (σ 2 0).toInt from by omega] at k167
      exact absurd k144.1 k167
    · obtain ⟨q172, k171⟩ := h164
      have z173 : (σ52 55 6).toInt = (σ 55 6).toInt := (congrArg Int32.toInt (show σ52 55 6 = (σ 55 6) from (congrFun (f54 55 (by decide)) 6)))
      rw [show (σ52 55 6).toInt = (σ 2 0).toInt from by omega] at k171
      obtain ⟨e174, q175, l176, c177⟩ := k144
      obtain ⟨-, q178, l179, c180⟩ := k171
      have p181 := jEdge_pl (by omega) e174 l176 l179
      rw [show σ52 56 = σ 56 from (f54 56 (by decide)), show σ52 57 = σ 57 from (f54 57 (by decide)), show σ52 58 = σ 58 from (f54 58 (by decide)), show σ52 59 = σ 59 from (f54 59 (by decide)), show (σ52 55 4).toInt = (σ 55 4).toInt from by omega] at c180
      have r185 := hr0.res p181.1 (by have h9 := p181.2.1; omega) c177 c180 p181.2.2
      have k184 := hr0.chg p181.1 (by have h9 := p181.2.1; omega) c177 c180 p181.2.2 (by omega) (by omega) (by omega)
      have k182 := k184.2.1
      have k183 := k184.2.2
      have o186 : 32 ≤ q178 → q178 ≤ 35 → 0 ≤ (xs x50.toNatClampNeg).toInt ∧ (xs x50.toNatClampNeg).toInt ≤ 8 := fun x y => by
        have e := e174
        have l := l179
        unfold jEok at e; unfold jEpl at l; omega
      refine lv_pop hx hb dL_law_278 rfl ?_
      refine lv_goto (tgt := 1357) hx hb dL_law_279 (by decide) ?_
      obtain ⟨x187, ex187⟩ : ∃ y : Int32, y = x0 + 6 := ⟨_, rfl⟩
      have tx187 : x187.toInt = x0.toInt + 6 := (jadd ex187 rfl jz_6 (by omega) (by omega)).trans (by omega)
      refine lv_iinc (v := x187) (lv' := [(3, .int x187), (2, .ref (ad 55)), (1, .ref (ad 0)), (0, .ref b)]) hx hb dL_law_1357 hl (k := 0) rfl (by rw [ex187]; rfl) (by decide) rfl (fun ls hl => ?_)
      refine lv_goto (tgt := 18) hx hb dL_law_1360 (by decide) ?_
      have I188 : jI2 σ150 := jI2_fr (congrFun (f152 2 (by decide)) 0) (congrFun (f152 2 (by decide)) 1) (congrFun (f152 2 (by decide)) 2) (congrFun (f152 2 (by decide)) 3) (f152 6 (by decide)) I56
      have I189 : jI9 σ150 := jI9_fr ((congrFun (f152 9 (by decide)) 0).trans (congrFun (f54 9 (by decide)) 0)) ((f152 10 (by decide)).trans (f54 10 (by decide))) ((f152 11 (by decide)).trans (f54 11 (by decide))) hI9
      have I190 : jI12 σ150 := jI12_fr ((congrFun (f152 12 (by decide)) 0).trans (congrFun (f54 12 (by decide)) 0)) ((f152 13 (by decide)).trans (f54 13 (by decide))) hI12
      have I191 : jI16 σ150 := jI16_fr ((congrFun (f152 16 (by decide)) 0).trans (congrFun (f54 16 (by decide)) 0)) ((congrFun (f152 16 (by decide)) 1).trans (congrFun (f54 16 (by decide)) 1)) ((congrFun (f152 16 (by decide)) 2).trans (congrFun (f54 16 (by decide)) 2)) ((f152 17 (by decide)).trans (f54 17 (by decide))) hI16
      have I192 : jI18 σ150 := jI18_fr ((congrFun (f152 18 (by decide)) 0).trans (congrFun (f54 18 (by decide)) 0)) ((f152 19 (by decide)).trans (f54 19 (by decide))) hI18
      have I193 : jI22 σ150 := jI22_fr ((congrFun (f152 22 (by decide)) 0).trans (congrFun (f54 22 (by decide)) 0)) ((f152 23 (by decide)).trans (f54 23 (by decide))) hI22
      have I194 : jI31 σ150 := jI31_fr ((congrFun (f152 31 (by decide)) 8).trans (congrFun (f54 31 (by decide)) 8)) ((f152 33 (by decide)).trans (f54 33 (by decide))) ((f152 36 (by decide)).trans (f54 36 (by decide))) hI31
      have I195 : jI38 σ150 := jI38_fr ((congrFun (f152 38 (by decide)) 0).trans (congrFun (f54 38 (by decide)) 0)) ((congrFun (f152 38 (by decide)) 1).trans (congrFun (f54 38 (by decide)) 1)) ((f152 39 (by decide)).trans (f54 39 (by decide))) hI38
      have I196 : jI43 σ150 := jI43_fr ((congrFun (f152 43 (by decide)) 8).trans (congrFun (f54 43 (by decide)) 8)) hI43
      have I197 : jI47 σ150 := jI47_fr ((congrFun (f152 47 (by decide)) 0).trans (congrFun (f54 47 (by decide)) 0)) ((f152 48 (by decide)).trans (f54 48 (by decide))) ((f152 49 (by decide)).trans (f54 49 (by decide))) hI47
      have I198 : jI50 σ150 := jI50_fr ((f152 52 (by decide)).trans (f54 52 (by decide))) hI50
      have I199 : jI102 σ150 := jI102_fr (f153 6 (by decide)) (f152 60 (by decide)) (f152 61 (by decide)) I147
      have I200 : jI103 σ150 := jI103_fr ((f153 9 (by decide)).trans (congrFun (f54 55 (by decide)) 9)) hI103
      have I201 : jI104 σ150 := jI104_fr ((f153 10 (by decide)).trans (congrFun (f54 55 (by decide)) 10)) ((f153 12 (by decide)).trans (congrFun (f54 55 (by decide)) 12)) ((f153 13 (by decide)).trans (congrFun (f54 55 (by decide)) 13)) ((f152 62 (by decide)).trans (f54 62 (by decide))) ((f152 67 (by decide)).trans (f54 67 (by decide))) hI104
      have I202 : jI105 σ150 := jI105_fr ((f153 15 (by decide)).trans (congrFun (f54 55 (by decide)) 15)) ((f152 65 (by decide)).trans (f54 65 (by decide))) hI105
      have I203 : jI106 σ150 := jI106_fr ((f153 32 (by decide)).trans (congrFun (f54 55 (by decide)) 32)) ((f152 70 (by decide)).trans (f54 70 (by decide))) ((f152 71 (by decide)).trans (f54 71 (by decide))) ((f152 72 (by decide)).trans (f54 72 (by decide))) hI106
      have I204 : jI107 σ150 := jI107_fr ((f153 12 (by decide)).trans (congrFun (f54 55 (by decide)) 12)) ((f153 47 (by decide)).trans (congrFun (f54 55 (by decide)) 47)) ((f152 80 (by decide)).trans (f54 80 (by decide))) hI107
      have I205 : jI109 σ150 := jI109_fr ((f153 50 (by decide)).trans (congrFun (f54 55 (by decide)) 50)) hI109
      have I206 : jI110 σ150 := jI110_fr ((f152 86 (by decide)).trans (f54 86 (by decide))) ((f152 87 (by decide)).trans (f54 87 (by decide))) hI110
      have I207 : jI111 σ150 := jI111_fr ((f152 79 (by decide)).trans (f54 79 (by decide))) hI111
      have I208 : jI119 σ150 := jI119_fr ((f152 68 (by decide)).trans (f54 68 (by decide))) hI119
      have p209 : jKept σ150 := jKept.fr ((f152 75 (by decide)).trans (f54 75 (by decide))) ((f152 76 (by decide)).trans (f54 76 (by decide))) ((f152 77 (by decide)).trans (f54 77 (by decide))) hs_jKept
      have p210 : jBook σ150 := jBook.fr ((f153 47 (by decide)).trans (congrFun (f54 55 (by decide)) 47)) ((f153 10 (by decide)).trans (congrFun (f54 55 (by decide)) 10)) ((f152 81 (by decide)).trans (f54 81 (by decide))) hs_jBook
      have z211 : (σ150 2 0).toInt = (σ 2 0).toInt := (congrArg Int32.toInt (show σ150 2 0 = (σ 2 0) from ((congrFun (f152 2 (by decide)) 0).trans (f55 0 (by decide)))))
      have z212 : (σ150 55 6).toInt = (σ 55 6).toInt := (congrArg Int32.toInt (show σ150 55 6 = (σ 55 6) from ((f153 6 (by decide)).trans (congrFun (f54 55 (by decide)) 6))))
      have z213 : (σ150 2 2).toInt = (σ52 2 2).toInt := (congrArg Int32.toInt (show σ150 2 2 = (σ52 2 2) from (congrFun (f152 2 (by decide)) 2)))
      have z214 : (σ150 2 3).toInt = (σ52 2 3).toInt := (congrArg Int32.toInt (show σ150 2 3 = (σ52 2 3) from (congrFun (f152 2 (by decide)) 3)))
      have z215 : (σ150 9 0).toInt = (σ 9 0).toInt := (congrArg Int32.toInt (show σ150 9 0 = (σ 9 0) from ((congrFun (f152 9 (by decide)) 0).trans (congrFun (f54 9 (by decide)) 0))))
      have z216 : (σ150 55 15).toInt = (σ 55 15).toInt := (congrArg Int32.toInt (show σ150 55 15 = (σ 55 15) from ((f153 15 (by decide)).trans (congrFun (f54 55 (by decide)) 15))))
      have z217 : (σ150 16 0).toInt = (σ 16 0).toInt := (congrArg Int32.toInt (show σ150 16 0 = (σ 16 0) from ((congrFun (f152 16 (by decide)) 0).trans (congrFun (f54 16 (by decide)) 0))))
      have z218 : (σ150 55 10).toInt = (σ 55 10).toInt := (congrArg Int32.toInt (show σ150 55 10 = (σ 55 10) from ((f153 10 (by decide)).trans (congrFun (f54 55 (by decide)) 10))))
      have z219 : (σ150 16 1).toInt = (σ 16 1).toInt := (congrArg Int32.toInt (show σ150 16 1 = (σ 16 1) from ((congrFun (f152 16 (by decide)) 1).trans (congrFun (f54 16 (by decide)) 1))))
      have z220 : (σ150 55 12).toInt = (σ 55 12).toInt := (congrArg Int32.toInt (show σ150 55 12 = (σ 55 12) from ((f153 12 (by decide)).trans (congrFun (f54 55 (by decide)) 12))))
      have z221 : (σ150 16 2).toInt = (σ 16 2).toInt := (congrArg Int32.toInt (show σ150 16 2 = (σ 16 2) from ((congrFun (f152 16 (by decide)) 2).trans (congrFun (f54 16 (by decide)) 2))))
      have z222 : (σ150 55 13).toInt = (σ 55 13).toInt := (congrArg Int32.toInt (show σ150 55 13 = (σ 55 13) from ((f153 13 (by decide)).trans (congrFun (f54 55 (by decide)) 13))))
      have z223 : (σ150 38 0).toInt = (σ 38 0).toInt := (congrArg Int32.toInt (show σ150 38 0 = (σ 38 0) from ((congrFun (f152 38 (by decide)) 0).trans (congrFun (f54 38 (by decide)) 0))))
      have z224 : (σ150 55 32).toInt = (σ 55 32).toInt := (congrArg Int32.toInt (show σ150 55 32 = (σ 55 32) from ((f153 32 (by decide)).trans (congrFun (f54 55 (by decide)) 32))))
      have z225 : (σ150 47 0).toInt = (σ 47 0).toInt := (congrArg Int32.toInt (show σ150 47 0 = (σ 47 0) from ((congrFun (f152 47 (by decide)) 0).trans (congrFun (f54 47 (by decide)) 0))))
      have z226 : (σ150 55 47).toInt = (σ 55 47).toInt := (congrArg Int32.toInt (show σ150 55 47 = (σ 55 47) from ((f153 47 (by decide)).trans (congrFun (f54 55 (by decide)) 47))))
      have z227 : (σ150 55 30).toInt = (σ 55 30).toInt := (congrArg Int32.toInt (show σ150 55 30 = (σ 55 30) from ((f153 30 (by decide)).trans (congrFun (f54 55 (by decide)) 30))))
      have z228 : (σ150 55 31).toInt = (σ 55 31).toInt := (congrArg Int32.toInt (show σ150 55 31 = (σ 55 31) from ((f153 31 (by decide)).trans (congrFun (f54 55 (by decide)) 31))))
      exact ih x187 σ150 τ _ _ ls (by have h9 := tx187; omega) ⟨I188, I189, I190, I191, I192, I193, I194, I195, I196, I197, I198, I154, I199, I200, I201, I202, I203, I204, I205, I206, I207, I208, p209, p210, (by omega), (by omega), (by omega), (by omega), (by omega), (by omega), (by omega), (by omega), (by omega), (by omega), (by omega), (show jNumP (σ150 3) (σ150 56) (σ150 6) (σ150 57) (σ150 7) (σ150 58) (σ150 8) (σ150 59) (σ150 55 6).toInt (σ150 55 4).toInt by rw [show σ150 3 = σ52 3 from (f152 3 (by decide)), show σ150 6 = σ52 6 from (f152 6 (by decide)), show σ150 7 = σ52 7 from (f152 7 (by decide)), show σ150 8 = σ52 8 from (f152 8 (by decide)), show (σ150 55 6).toInt = (σ 55 6).toInt from by omega]; exact k184.1), (hr1.chg c180 (by have h8 := p181.1; have h9 := p181.2.2; omega) (by omega) o186), (show jTp (σ150 10) (σ150 63) (σ150 55 15).toInt by rw [show σ150 10 = σ 10 from ((f152 10 (by decide)).trans (f54 10 (by decide))), show σ150 63 = σ 63 from ((f152 63 (by decide)).trans (f54 63 (by decide)))]; exact hr2.le (by omega)), (show jSo (σ150 17) (σ150 62) (σ150 16 0).toInt by rw [show σ150 17 = σ 17 from ((f152 17 (by decide)).trans (f54 17 (by decide))), show σ150 62 = σ 62 from ((f152 62 (by decide)).trans (f54 62 (by decide))), show (σ150 16 0).toInt = (σ 16 0).toInt from by omega]; exact hr3), (show jShP (σ150 51) (σ150 52) (σ150 53) (σ150 86) (σ150 87) (σ150 55 32).toInt by rw [show σ150 51 = σ 51 from ((f152 51 (by decide)).trans (f54 51 (by decide))), show σ150 52 = σ 52 from ((f152 52 (by decide)).trans (f54 52 (by decide))), show σ150 53 = σ 53 from ((f152 53 (by decide)).trans (f54 53 (by decide))), show σ150 86 = σ 86 from ((f152 86 (by decide)).trans (f54 86 (by decide))), show σ150 87 = σ 87 from ((f152 87 (by decide)).trans (f54 87 (by decide)))]; exact (hr4.up (by omega) (by omega))), (show jEl (σ150 51) (σ150 52) (τ 54) (τ 88) by rw [show σ150 51 = σ 51 from ((f152 51 (by decide)).trans (f54 51 (by decide))), show σ150 52 = σ 52 from ((f152 52 (by decide)).trans (f54 52 (by decide)))]; exact hr5), (show jByP (σ150 51) (σ150 52) (τ 54) by rw [show σ150 51 = σ 51 from ((f152 51 (by decide)).trans (f54 51 (by decide))), show σ150 52 = σ 52 from ((f152 52 (by decide)).trans (f54 52 (by decide)))]; exact hr6), (show jBk (σ150 48) (σ150 80) (σ150 49) (σ150 81) (σ150 55 47).toInt by rw [show σ150 48 = σ 48 from ((f152 48 (by decide)).trans (f54 48 (by decide))), show σ150 49 = σ 49 from ((f152 49 (by decide)).trans (f54 49 (by decide))), show σ150 80 = σ 80 from ((f152 80 (by decide)).trans (f54 80 (by decide))), show σ150 81 = σ 81 from ((f152 81 (by decide)).trans (f54 81 (by decide))), show (σ150 55 47).toInt = (σ 55 47).toInt from by omega]; exact hr7)⟩ hP hS (lv_sub hl [0, 1, 2, 3] rfl)
set_option maxHeartbeats 4000000 in
set_option maxRecDepth 100000 in
theorem law_case_2 {p : Program} {e : Env} {s : State} {m : MethodId} {below : List Frame} {meth : Method} {c : Code} (l : Launch) {b L : Nat} {xs : Nat → Int32} {D : va_G} {cI cL : ClassId} {ad zz : Nat → Nat} (C0 : lw_At p s m meth c b L xs) (hJ : jD ad) (hA : ∀ q, jA ad q → s.heap.size ≤ q) (hK : jK D cI cL s) (hZ : jZ zz (fun q : Nat => s.heap.size ≤ q) s s.heap) {x0 : Int32} (hx0 : 0 ≤ x0.toInt) (hxL : x0.toInt + 6 ≤ (L : Int)) (hL : L ≤ 384) {σ : Nat → Nat → Int32} {τ : Nat → Nat → Int64} {H : Heap} {locs : List Loc} (hS : va_S (fun q : Nat => s.heap.size ≤ q) s.heap H locs) {ls : Array Slot} (hAll : jAll σ τ) (hP : jH D cI cL ad σ τ H) (hl : lv_has ls 4 [(3, .int x0), (2, .ref (ad 55)), (1, .ref (ad 0)), (0, .ref b)]) (ih : ∀ (x1 : Int32) (σ : Nat → Nat → Int32) (τ : Nat → Nat → Int64) (H : Heap) (locs : List Loc) (ls : Array Slot), x1.toInt = x0.toInt + 6 → jAll σ τ → jH D cI cL ad σ τ H → va_S (fun q : Nat => s.heap.size ≤ q) s.heap H locs → lv_has ls 4 [(3, .int x1), (2, .ref (ad 55)), (1, .ref (ad 0)), (0, .ref b)] → W p l e room_1 s m #[Value.ref b] below meth c H locs 90 348600 (lw_Z below #[Value.ref b] s) (F0 m 18 ls [])) : W p l e room_1 s m #[Value.ref b] below meth c H locs 90 348600 (lw_Z below #[Value.ref b] s) (F0 m 282 ls []) := by
  obtain ⟨hx, hb, hr, hml, hown, hts0, hX, hbl, hlocks, hgv⟩ := C0
  have hts : ∀ w ∈ wsL_law, w.before #[Value.ref b] s = true := fun w h => hts0 w (wsL_law_in w h)
  have hbA : ¬ (fun q : Nat => s.heap.size ≤ q) b := Nat.not_le.mpr hbl
  have hown : s.vm.findClass RL = some m.cls := hown
  obtain ⟨hI2, hI9, hI12, hI16, hI18, hI22, hI31, hI38, hI43, hI47, hI50, hI101, hI102, hI103, hI104, hI105, hI106, hI107, hI109, hI110, hI111, hI119, hs_jKept, hs_jBook, ht0, ht1, ht2, ht3, ht4, ht5, ht6, ht7, ht8, ht9, ht10, hr0, hr1, hr2, hr3, hr4, hr5, hr6, hr7⟩ := hAll
  have hL9 : (L : Int) ≤ 384 := by omega
  obtain ⟨i1, i2, i3, i4, i5, w6⟩ : (0 ≤ (σ 2 0).toInt ∧ (σ 2 0).toInt ≤ 4) ∧ (0 ≤ (σ 2 1).toInt ∧ (σ 2 1).toInt ≤ 3) ∧ (0 ≤ (σ 2 2).toInt) ∧ (0 ≤ (σ 2 3).toInt) ∧ ((σ 2 2).toInt + (σ 2 3).toInt ≤ 40) ∧ (∀ k : Nat, k < 40 → 0 ≤ (σ 6 k).toInt ∧ (σ 6 k).toInt ≤ 67) := id hI2
  obtain ⟨i7, w8, w9⟩ : (0 ≤ (σ 9 0).toInt ∧ (σ 9 0).toInt ≤ 80) ∧ (∀ k : Nat, k < 80 → 0 ≤ (σ 10 k).toInt ∧ (σ 10 k).toInt ≤ 255) ∧ (∀ k : Nat, k < 8 → 0 ≤ (σ 11 k).toInt ∧ (σ 11 k).toInt ≤ 3) := id hI9
  obtain ⟨i10, i11, i12, w13⟩ : (1 ≤ (σ 16 0).toInt ∧ (σ 16 0).toInt ≤ 8) ∧ (1 ≤ (σ 16 1).toInt ∧ (σ 16 1).toInt ≤ 12) ∧ (0 ≤ (σ 16 2).toInt ∧ (σ 16 2).toInt ≤ 999) ∧ (∀ k : Nat, k < 8 → 0 ≤ (σ 17 k).toInt ∧ (σ 17 k).toInt ≤ 3) := id hI16
  obtain ⟨i14, i15, w16⟩ : (0 ≤ (σ 38 0).toInt ∧ (σ 38 0).toInt ≤ 20) ∧ (0 ≤ (σ 38 1).toInt ∧ (σ 38 1).toInt ≤ 1000) ∧ (∀ k : Nat, k < 20 → 0 ≤ (σ 39 k).toInt ∧ (σ 39 k).toInt ≤ 6) := id hI38
  obtain ⟨i17, w18, w19⟩ : (0 ≤ (σ 47 0).toInt ∧ (σ 47 0).toInt ≤ 12) ∧ (∀ k : Nat, k < 12 → 0 ≤ (σ 48 k).toInt ∧ (σ 48 k).toInt ≤ 3) ∧ (∀ k : Nat, k < 12 → 0 ≤ (σ 49 k).toInt ∧ (σ 49 k).toInt ≤ 1) := id hI47
  have w20 : ∀ k : Nat, k < 6 → 0 ≤ (σ 52 k).toInt ∧ (σ 52 k).toInt ≤ 60 := hI50
  obtain ⟨i21, i22, i23, w24, w25, w26, w27⟩ : (0 ≤ (σ 55 5).toInt) ∧ ((σ 55 5).toInt ≤ (σ 55 4).toInt) ∧ ((σ 55 4).toInt ≤ 40) ∧ (∀ k : Nat, k < 68 → (-200) ≤ (σ 56 k).toInt ∧ (σ 56 k).toInt ≤ 500) ∧ (∀ k : Nat, k < 40 → 0 ≤ (σ 57 k).toInt ∧ (σ 57 k).toInt ≤ 67) ∧ (∀ k : Nat, k < 40 → (-200) ≤ (σ 58 k).toInt ∧ (σ 58 k).toInt ≤ 500) ∧ (∀ k : Nat, k < 40 → (-200) ≤ (σ 59 k).toInt ∧ (σ 59 k).toInt ≤ 500) := id hI101
  obtain ⟨i28, w29, w30⟩ : (0 ≤ (σ 55 6).toInt ∧ (σ 55 6).toInt ≤ 4) ∧ (∀ k : Nat, k < 4 → 0 ≤ (σ 60 k).toInt ∧ (σ 60 k).toInt ≤ 50) ∧ (∀ k : Nat, k < 4 → 0 ≤ (σ 61 k).toInt ∧ (σ 61 k).toInt ≤ 20) := id hI102
  obtain ⟨i31, i32, i33, w34, w35⟩ : (1 ≤ (σ 55 10).toInt ∧ (σ 55 10).toInt ≤ 8) ∧ (1 ≤ (σ 55 12).toInt ∧ (σ 55 12).toInt ≤ 12) ∧ (0 ≤ (σ 55 13).toInt ∧ (σ 55 13).toInt ≤ 999) ∧ (∀ k : Nat, k < 8 → 0 ≤ (σ 62 k).toInt ∧ (σ 62 k).toInt ≤ 3) ∧ (∀ k : Nat, k < 8 → 0 ≤ (σ 67 k).toInt ∧ (σ 67 k).toInt ≤ 3) := id hI104
  obtain ⟨i36, w37⟩ : (0 ≤ (σ 55 15).toInt ∧ (σ 55 15).toInt ≤ 80) ∧ (∀ k : Nat, k < 2 → (-1) ≤ (σ 65 k).toInt ∧ (σ 65 k).toInt ≤ 80) := id hI105
  obtain ⟨i38, w39, w40, w41⟩ : (0 ≤ (σ 55 32).toInt ∧ (σ 55 32).toInt ≤ 20) ∧ (∀ k : Nat, k < 20 → 0 ≤ (σ 70 k).toInt ∧ (σ 70 k).toInt ≤ 6) ∧ (∀ k : Nat, k < 20 → 0 ≤ (σ 71 k).toInt ∧ (σ 71 k).toInt ≤ 8) ∧ (∀ k : Nat, k < 160 → 0 ≤ (σ 72 k).toInt ∧ (σ 72 k).toInt ≤ 3) := id hI106
  obtain ⟨i42, i43, w44⟩ : (0 ≤ (σ 55 47).toInt ∧ (σ 55 47).toInt ≤ 12) ∧ ((σ 55 47).toInt ≤ (σ 55 12).toInt) ∧ (∀ k : Nat, k < 12 → 0 ≤ (σ 80 k).toInt ∧ (σ 80 k).toInt ≤ 3) := id hI107
  refine lv_aload_n hx hb dL_law_282 rfl (lv_at hl 2 rfl) ?_
  refine lv_aload_n hx hb dL_law_283 rfl (lv_at hl 3 rfl) ?_
  refine lv_iload_n hx hb dL_law_284 rfl (lv_at hl 0 rfl) ?_
  refine lv_iconst (v := 1) hx hb dL_law_285 (by decide) ?_
  have g45 := jrg (rfl : x0.toInt = x0.toInt)
  refine lv_iadd hx hb dL_law_286 ?_
  refine lv_topi (fun x46 ex46 => ?_)
  have tx46 : x46.toInt = x0.toInt + 1 := (jadd ex46 rfl jz_1 (by omega) (by omega)).trans (by omega)
  refine va_sld hx hb hX hbl hbA hS (jin tx46 (by omega) (by omega)) dL_law_287 ?_
  have g47 := jrg (rfl : (xs x46.toNatClampNeg).toInt = (xs x46.toNatClampNeg).toInt)
  refine lv_aload_n hx hb dL_law_288 rfl (lv_at hl 3 rfl) ?_
  refine lv_iload_n hx hb dL_law_289 rfl (lv_at hl 0 rfl) ?_
  refine lv_iconst (v := 2) hx hb dL_law_290 (by decide) ?_
  refine lv_iadd hx hb dL_law_291 ?_
  refine lv_topi (fun x48 ex48 => ?_)
  have tx48 : x48.toInt = x0.toInt + 2 := (jadd ex48 rfl jz_2 (by omega) (by omega)).trans (by omega)
  refine va_sld hx hb hX hbl hbA hS (jin tx48 (by omega) (by omega)) dL_law_292 ?_
  have g49 := jrg (rfl : (xs x48.toNatClampNeg).toInt = (xs x48.toNatClampNeg).toInt)
  refine lv_aload_n hx hb dL_law_293 rfl (lv_at hl 3 rfl) ?_
  refine lv_iload_n hx hb dL_law_294 rfl (lv_at hl 0 rfl) ?_
  refine lv_iconst (v := 3) hx hb dL_law_295 (by decide) ?_
  refine lv_iadd hx hb dL_law_296 ?_
  refine lv_topi (fun x50 ex50 => ?_)
  have tx50 : x50.toInt = x0.toInt + 3 := (jadd ex50 rfl jz_3 (by omega) (by omega)).trans (by omega)
  refine va_sld hx hb hX hbl hbA hS (jin tx50 (by omega) (by omega)) dL_law_297 ?_
  have g51 := jrg (rfl : (xs x50.toNatClampNeg).toInt = (xs x50.toNatClampNeg).toInt)
  refine jcallV (As := [.int (xs x46.toNatClampNeg), .int (xs x48.toNatClampNeg), .int (xs x50.toNatClampNeg)]) (rest := []) ⟨hx, hb, hml, hown, hts⟩ hK hP hA hS hZ (c_X11_field l D cI cL ad zz hJ σ τ (xs x46.toNatClampNeg) ((xs x46.toNatClampNeg).toInt) rfl (xs x48.toNatClampNeg) ((xs x48.toNatClampNeg).toInt) rfl (xs x50.toNatClampNeg) ((xs x50.toNatClampNeg).toInt) rfl hI2) cw_RL_22 (jc_0 cI cL ad σ τ) rfl ⟨Nat.le_of_ble_eq_true rfl, Nat.le_of_ble_eq_true rfl⟩ rfl rfl rfl hl.1 rfl (Nat.le_of_ble_eq_true rfl) dL_law_298 ⟨Nat.le_of_ble_eq_true rfl, Nat.le_of_ble_eq_true rfl⟩ (fun r53 σ52 τ52 H locs h52 hP hS => ?_)
  obtain ⟨rfl, f54, f55, I56, h52⟩ := h52
  obtain ⟨i58, i59, i60, i61, i62, w63⟩ : (0 ≤ (σ52 2 0).toInt ∧ (σ52 2 0).toInt ≤ 4) ∧ (0 ≤ (σ52 2 1).toInt ∧ (σ52 2 1).toInt ≤ 3) ∧ (0 ≤ (σ52 2 2).toInt) ∧ (0 ≤ (σ52 2 3).toInt) ∧ ((σ52 2 2).toInt + (σ52 2 3).toInt ≤ 40) ∧ (∀ k : Nat, k < 40 → 0 ≤ (σ52 6 k).toInt ∧ (σ52 6 k).toInt ≤ 67) := id I56
  have z64 : (σ52 2 0).toInt = (σ 2 0).toInt := (congrArg Int32.toInt (show σ52 2 0 = (σ 2 0) from (f55 0 (by decide))))
  have z65 : (σ52 2 1).toInt = (σ 2 1).toInt := (congrArg Int32.toInt (show σ52 2 1 = (σ 2 1) from (f55 1 (by decide))))
  rcases h52 with h66 | h67
  · obtain ⟨q72, k68, k69, k70, k71⟩ := h66
    have q72 := q72.symm
    subst q72
    refine lv_pop hx hb dL_law_301 rfl ?_
    refine lv_aload_n hx hb dL_law_302 rfl (lv_at hl 1 rfl) ?_
    refine lv_aload_n hx hb dL_law_303 rfl (lv_at hl 3 rfl) ?_
    refine lv_iload_n hx hb dL_law_304 rfl (lv_at hl 0 rfl) ?_
    refine lv_iconst (v := 1) hx hb dL_law_305 (by decide) ?_
    refine lv_iadd hx hb dL_law_306 ?_
    refine jtopr ex46.symm ?_
    refine va_sld hx hb hX hbl hbA hS (jin tx46 (by omega) (by omega)) dL_law_307 ?_
    refine lv_aload_n hx hb dL_law_308 rfl (lv_at hl 3 rfl) ?_
    refine lv_iload_n hx hb dL_law_309 rfl (lv_at hl 0 rfl) ?_
    refine lv_iconst (v := 2) hx hb dL_law_310 (by decide) ?_
    refine lv_iadd hx hb dL_law_311 ?_
    refine jtopr ex48.symm ?_
    refine va_sld hx hb hX hbl hbA hS (jin tx48 (by omega) (by omega)) dL_law_312 ?_
    refine lv_aload_n hx hb dL_law_313 rfl (lv_at hl 3 rfl) ?_
    refine lv_iload_n hx hb dL_law_314 rfl (lv_at hl 0 rfl) ?_
    refine lv_iconst (v := 3) hx hb dL_law_315 (by decide) ?_
    refine lv_iadd hx hb dL_law_316 ?_
    refine jtopr ex50.symm ?_
    refine va_sld hx hb hX hbl hbA hS (jin tx50 (by omega) (by omega)) dL_law_317 ?_
    have I73 : jI101 σ52 := jI101_fr (congrFun (f54 55 (by decide)) 4) (congrFun (f54 55 (by decide)) 5) (f54 56 (by decide)) (f54 57 (by decide)) (f54 58 (by decide)) (f54 59 (by decide)) hI101
    have z74 : (σ52 55 5).toInt = (σ 55 5).toInt := (congrArg Int32.toInt (show σ52 55 5 = (σ 55 5) from (congrFun (f54 55 (by decide)) 5)))
    have z75 : (σ52 55 4).toInt = (σ 55 4).toInt := (congrArg Int32.toInt (show σ52 55 4 = (σ 55 4) from (congrFun (f54 55 (by decide)) 4)))
    refine jcallV (As := [.int (xs x46.toNatClampNeg), .int (xs x48.toNatClampNeg), .int (xs x50.toNatClampNeg)]) (rest := []) ⟨hx, hb, hml, hown, hts⟩ hK hP hA hS hZ (c_X12_field l D cI cL ad zz hJ σ52 τ (xs x46.toNatClampNeg) ((xs x46.toNatClampNeg).toInt) rfl (xs x48.toNatClampNeg) ((xs x48.toNatClampNeg).toInt) rfl (xs x50.toNatClampNeg) ((xs x50.toNatClampNeg).toInt) rfl I73) cw_RL_25 (jc_55 cI cL ad σ52 τ) rfl ⟨Nat.le_of_ble_eq_true rfl, Nat.le_of_ble_eq_true rfl⟩ rfl rfl rfl hl.1 rfl (Nat.le_of_ble_eq_true rfl) dL_law_318 ⟨Nat.le_of_ble_eq_true rfl, Nat.le_of_ble_eq_true rfl⟩ (fun r77 σ76 τ76 H locs h76 hP hS => ?_)
    obtain ⟨rfl, f78, f79, I80, h76⟩ := h76
    obtain ⟨i82, i83, i84, w85, w86, w87, w88⟩ : (0 ≤ (σ76 55 5).toInt) ∧ ((σ76 55 5).toInt ≤ (σ76 55 4).toInt) ∧ ((σ76 55 4).toInt ≤ 40) ∧ (∀ k : Nat, k < 68 → (-200) ≤ (σ76 56 k).toInt ∧ (σ76 56 k).toInt ≤ 500) ∧ (∀ k : Nat, k < 40 → 0 ≤ (σ76 57 k).toInt ∧ (σ76 57 k).toInt ≤ 67) ∧ (∀ k : Nat, k < 40 → (-200) ≤ (σ76 58 k).toInt ∧ (σ76 58 k).toInt ≤ 500) ∧ (∀ k : Nat, k < 40 → (-200) ≤ (σ76 59 k).toInt ∧ (σ76 59 k).toInt ≤ 500) := id I80
    rcases h76 with h89 | h90
    · obtain ⟨q95, k91, k92, k93, k94⟩ := h89
      have q95 := q95.symm
      subst q95
      have z96 : (σ52 55 6).toInt = (σ 55 6).toInt := (congrArg Int32.toInt (show σ52 55 6 = (σ 55 6) from (congrFun (f54 55 (by decide)) 6)))
      rw [show (σ52 55 6).toInt = (σ 2 0).toInt from by omega] at k93
      refine lv_pop hx hb dL_law_321 rfl ?_
      refine lv_goto (tgt := 1357) hx hb dL_law_322 (by decide) ?_
      obtain ⟨x97, ex97⟩ : ∃ y : Int32, y = x0 + 6 := ⟨_, rfl⟩
      have tx97 : x97.toInt = x0.toInt + 6 := (jadd ex97 rfl jz_6 (by omega) (by omega)).trans (by omega)
      refine lv_iinc (v := x97) (lv' := [(3, .int x97), (2, .ref (ad 55)), (1, .ref (ad 0)), (0, .ref b)]) hx hb dL_law_1357 hl (k := 0) rfl (by rw [ex97]; rfl) (by decide) rfl (fun ls hl => ?_)
      refine lv_goto (tgt := 18) hx hb dL_law_1360 (by decide) ?_
      have I98 : jI2 σ76 := jI2_fr (congrFun (f78 2 (by decide)) 0) (congrFun (f78 2 (by decide)) 1) (congrFun (f78 2 (by decide)) 2) (congrFun (f78 2 (by decide)) 3) (f78 6 (by decide)) I56
      have I99 : jI9 σ76 := jI9_fr ((congrFun (f78 9 (by decide)) 0).trans (congrFun (f54 9 (by decide)) 0)) ((f78 10 (by decide)).trans (f54 10 (by decide))) ((f78 11 (by decide)).trans (f54 11 (by decide))) hI9
      have I100 : jI12 σ76 := jI12_fr ((congrFun (f78 12 (by decide)) 0).trans (congrFun (f54 12 (by decide)) 0)) ((f78 13 (by decide)).trans (f54 13 (by decide))) hI12
      have I101 : jI16 σ76 := jI16_fr ((congrFun (f78 16 (by decide)) 0).trans (congrFun (f54 16 (by decide)) 0)) ((congrFun (f78 16 (by decide)) 1).trans (congrFun (f54 16 (by decide)) 1)) ((congrFun (f78 16 (by decide)) 2).trans (congrFun (f54 16 (by decide)) 2)) ((f78 17 (by decide)).trans (f54 17 (by decide))) hI16
      have I102 : jI18 σ76 := jI18_fr ((congrFun (f78 18 (by decide)) 0).trans (congrFun (f54 18 (by decide)) 0)) ((f78 19 (by decide)).trans (f54 19 (by decide))) hI18
      have I103 : jI22 σ76 := jI22_fr ((congrFun (f78 22 (by decide)) 0).trans (congrFun (f54 22 (by decide)) 0)) ((f78 23 (by decide)).trans (f54 23 (by decide))) hI22
      have I104 : jI31 σ76 := jI31_fr ((congrFun (f78 31 (by decide)) 8).trans (congrFun (f54 31 (by decide)) 8)) ((f78 33 (by decide)).trans (f54 33 (by decide))) ((f78 36 (by decide)).trans (f54 36 (by decide))) hI31
      have I105 : jI38 σ76 := jI38_fr ((congrFun (f78 38 (by decide)) 0).trans (congrFun (f54 38 (by decide)) 0)) ((congrFun (f78 38 (by decide)) 1).trans (congrFun (f54 38 (by decide)) 1)) ((f78 39 (by decide)).trans (f54 39 (by decide))) hI38
      have I106 : jI43 σ76 := jI43_fr ((congrFun (f78 43 (by decide)) 8).trans (congrFun (f54 43 (by decide)) 8)) hI43
      have I107 : jI47 σ76 := jI47_fr ((congrFun (f78 47 (by decide)) 0).trans (congrFun (f54 47 (by decide)) 0)) ((f78 48 (by decide)).trans (f54 48 (by decide))) ((f78 49 (by decide)).trans (f54 49 (by decide))) hI47
      have I108 : jI50 σ76 := jI50_fr ((f78 52 (by decide)).trans (f54 52 (by decide))) hI50
      have I109 : jI102 σ76 := jI102_fr ((f79 6 (by decide)).trans (congrFun (f54 55 (by decide)) 6)) ((f78 60 (by decide)).trans (f54 60 (by decide))) ((f78 61 (by decide)).trans (f54 61 (by decide))) hI102
      have I110 : jI103 σ76 := jI103_fr ((f79 9 (by decide)).trans (congrFun (f54 55 (by decide)) 9)) hI103
      have I111 : jI104 σ76 := jI104_fr ((f79 10 (by decide)).trans (congrFun (f54 55 (by decide)) 10)) ((f79 12 (by decide)).trans (congrFun (f54 55 (by decide)) 12)) ((f79 13 (by decide)).trans (congrFun (f54 55 (by decide)) 13)) ((f78 62 (by decide)).trans (f54 62 (by decide))) ((f78 67 (by decide)).trans (f54 67 (by decide))) hI104
      have I112 : jI105 σ76 := jI105_fr ((f79 15 (by decide)).trans (congrFun (f54 55 (by decide)) 15)) ((f78 65 (by decide)).trans (f54 65 (by decide))) hI105
      have I113 : jI106 σ76 := jI106_fr ((f79 32 (by decide)).trans (congrFun (f54 55 (by decide)) 32)) ((f78 70 (by decide)).trans (f54 70 (by decide))) ((f78 71 (by decide)).trans (f54 71 (by decide))) ((f78 72 (by decide)).trans (f54 72 (by decide))) hI106
      have I114 : jI107 σ76 := jI107_fr ((f79 12 (by decide)).trans (congrFun (f54 55 (by decide)) 12)) ((f79 47 (by decide)).trans (congrFun (f54 55 (by decide)) 47)) ((f78 80 (by decide)).trans (f54 80 (by decide))) hI107
      have I115 : jI109 σ76 := jI109_fr ((f79 50 (by decide)).trans (congrFun (f54 55 (by decide)) 50)) hI109
      have I116 : jI110 σ76 := jI110_fr ((f78 86 (by decide)).trans (f54 86 (by decide))) ((f78 87 (by decide)).trans (f54 87 (by decide))) hI110
      have I117 : jI111 σ76 := jI111_fr ((f78 79 (by decide)).trans (f54 79 (by decide))) hI111
      have I118 : jI119 σ76 := jI119_fr ((f78 68 (by decide)).trans (f54 68 (by decide))) hI119
      have p119 : jKept σ76 := jKept.fr ((f78 75 (by decide)).trans (f54 75 (by decide))) ((f78 76 (by decide)).trans (f54 76 (by decide))) ((f78 77 (by decide)).trans (f54 77 (by decide))) hs_jKept
      have p120 : jBook σ76 := jBook.fr ((f79 47 (by decide)).trans (congrFun (f54 55 (by decide)) 47)) ((f79 10 (by decide)).trans (congrFun (f54 55 (by decide)) 10)) ((f78 81 (by decide)).trans (f54 81 (by decide))) hs_jBook
      have z121 : (σ76 2 0).toInt = (σ 2 0).toInt := (congrArg Int32.toInt (show σ76 2 0 = (σ 2 0) from ((congrFun (f78 2 (by decide)) 0).trans (f55 0 (by decide)))))
      have z122 : (σ76 55 6).toInt = (σ 55 6).toInt := (congrArg Int32.toInt (show σ76 55 6 = (σ 55 6) from ((f79 6 (by decide)).trans (congrFun (f54 55 (by decide)) 6))))
      have z123 : (σ76 2 2).toInt = (σ52 2 2).toInt := (congrArg Int32.toInt (show σ76 2 2 = (σ52 2 2) from (congrFun (f78 2 (by decide)) 2)))
      have z124 : (σ76 2 3).toInt = (σ52 2 3).toInt := (congrArg Int32.toInt (show σ76 2 3 = (σ52 2 3) from (congrFun (f78 2 (by decide)) 3)))
      have z125 : (σ76 9 0).toInt = (σ 9 0).toInt := (congrArg Int32.toInt (show σ76 9 0 = (σ 9 0) from ((congrFun (f78 9 (by decide)) 0).trans (congrFun (f54 9 (by decide)) 0))))
      have z126 : (σ76 55 15).toInt = (σ 55 15).toInt := (congrArg Int32.toInt (show σ76 55 15 = (σ 55 15) from ((f79 15 (by decide)).trans (congrFun (f54 55 (by decide)) 15))))
      have z127 : (σ76 16 0).toInt = (σ 16 0).toInt := (congrArg Int32.toInt (show σ76 16 0 = (σ 16 0) from ((congrFun (f78 16 (by decide)) 0).trans (congrFun (f54 16 (by decide)) 0))))
      have z128 : (σ76 55 10).toInt = (σ 55 10).toInt := (congrArg Int32.toInt (show σ76 55 10 = (σ 55 10) from ((f79 10 (by decide)).trans (congrFun (f54 55 (by decide)) 10))))
      have z129 : (σ76 16 1).toInt = (σ 16 1).toInt := (congrArg Int32.toInt (show σ76 16 1 = (σ 16 1) from ((congrFun (f78 16 (by decide)) 1).trans (congrFun (f54 16 (by decide)) 1))))
      have z130 : (σ76 55 12).toInt = (σ 55 12).toInt := (congrArg Int32.toInt (show σ76 55 12 = (σ 55 12) from ((f79 12 (by decide)).trans (congrFun (f54 55 (by decide)) 12))))
      have z131 : (σ76 16 2).toInt = (σ 16 2).toInt := (congrArg Int32.toInt (show σ76 16 2 = (σ 16 2) from ((congrFun (f78 16 (by decide)) 2).trans (congrFun (f54 16 (by decide)) 2))))
      have z132 : (σ76 55 13).toInt = (σ 55 13).toInt := (congrArg Int32.toInt (show σ76 55 13 = (σ 55 13) from ((f79 13 (by decide)).trans (congrFun (f54 55 (by decide)) 13))))
      have z133 : (σ76 38 0).toInt = (σ 38 0).toInt := (congrArg Int32.toInt (show σ76 38 0 = (σ 38 0) from ((congrFun (f78 38 (by decide)) 0).trans (congrFun (f54 38 (by decide)) 0))))
      have z134 : (σ76 55 32).toInt = (σ 55 32).toInt := (congrArg Int32.toInt (show σ76 55 32 = (σ 55 32) from ((f79 32 (by decide)).trans (congrFun (f54 55 (by decide)) 32))))
      have z135 : (σ76 47 0).toInt = (σ 47 0).toInt := (congrArg Int32.toInt (show σ76 47 0 = (σ 47 0) from ((congrFun (f78 47 (by decide)) 0).trans (congrFun (f54 47 (by decide)) 0))))
      have z136 : (σ76 55 47).toInt = (σ 55 47).toInt := (congrArg Int32.toInt (show σ76 55 47 = (σ 55 47) from ((f79 47 (by decide)).trans (congrFun (f54 55 (by decide)) 47))))
      have z137 : (σ76 55 30).toInt = (σ 55 30).toInt := (congrArg Int32.toInt (show σ76 55 30 = (σ 55 30) from ((f79 30 (by decide)).trans (congrFun (f54 55 (by decide)) 30))))
      have z138 : (σ76 55 31).toInt = (σ 55 31).toInt := (congrArg Int32.toInt (show σ76 55 31 = (σ 55 31) from ((f79 31 (by decide)).trans (congrFun (f54 55 (by decide)) 31))))
      exact ih x97 σ76 τ _ _ ls (by have h9 := tx97; omega) ⟨I98, I99, I100, I101, I102, I103, I104, I105, I106, I107, I108, I80, I109, I110, I111, I112, I113, I114, I115, I116, I117, I118, p119, p120, (by omega), (by omega), (by omega), (by omega), (by omega), (by omega), (by omega), (by omega), (by omega), (by omega), (by omega), (show jNumP (σ76 3) (σ76 56) (σ76 6) (σ76 57) (σ76 7) (σ76 58) (σ76 8) (σ76 59) (σ76 55 6).toInt (σ76 55 4).toInt by rw [show σ76 3 = σ 3 from ((f78 3 (by decide)).trans k71.1), show σ76 56 = σ 56 from (k94.1.trans (f54 56 (by decide))), show σ76 6 = σ 6 from ((f78 6 (by decide)).trans k71.2.1), show σ76 57 = σ 57 from (k94.2.1.trans (f54 57 (by decide))), show σ76 7 = σ 7 from ((f78 7 (by decide)).trans k71.2.2.1), show σ76 58 = σ 58 from (k94.2.2.1.trans (f54 58 (by decide))), show σ76 8 = σ 8 from ((f78 8 (by decide)).trans k71.2.2.2), show σ76 59 = σ 59 from (k94.2.2.2.trans (f54 59 (by decide))), show (σ76 55 6).toInt = (σ 55 6).toInt from by omega, show (σ76 55 4).toInt = (σ 55 4).toInt from by omega]; exact hr0), (show jOvP (σ76 56) (σ76 57) (σ76 58) (σ76 59) (σ76 55 4).toInt by rw [show σ76 56 = σ 56 from (k94.1.trans (f54 56 (by decide))), show σ76 57 = σ 57 from (k94.2.1.trans (f54 57 (by decide))), show σ76 58 = σ 58 from (k94.2.2.1.trans (f54 58 (by decide))), show σ76 59 = σ 59 from (k94.2.2.2.trans (f54 59 (by decide))), show (σ76 55 4).toInt = (σ 55 4).toInt from by omega]; exact hr1), (show jTp (σ76 10) (σ76 63) (σ76 55 15).toInt by rw [show σ76 10 = σ 10 from ((f78 10 (by decide)).trans (f54 10 (by decide))), show σ76 63 = σ 63 from ((f78 63 (by decide)).trans (f54 63 (by decide)))]; exact hr2.le (by omega)), (show jSo (σ76 17) (σ76 62) (σ76 16 0).toInt by rw [show σ76 17 = σ 17 from ((f78 17 (by decide)).trans (f54 17 (by decide))), show σ76 62 = σ 62 from ((f78 62 (by decide)).trans (f54 62 (by decide))), show (σ76 16 0).toInt = (σ 16 0).toInt from by omega]; exact hr3), (show jShP (σ76 51) (σ76 52) (σ76 53) (σ76 86) (σ76 87) (σ76 55 32).toInt by rw [show σ76 51 = σ 51 from ((f78 51 (by decide)).trans (f54 51 (by decide))), show σ76 52 = σ 52 from ((f78 52 (by decide)).trans (f54 52 (by decide))), show σ76 53 = σ 53 from ((f78 53 (by decide)).trans (f54 53 (by decide))), show σ76 86 = σ 86 from ((f78 86 (by decide)).trans (f54 86 (by decide))), show σ76 87 = σ 87 from ((f78 87 (by decide)).trans (f54 87 (by decide)))]; exact (hr4.up (by omega) (by omega))), (show jEl (σ76 51) (σ76 52) (τ 54) (τ 88) by rw [show σ76 51 = σ 51 from ((f78 51 (by decide)).trans (f54 51 (by decide))), show σ76 52 = σ 52 from ((f78 52 (by decide)).trans (f54 52 (by decide)))]; exact hr5), (show jByP (σ76 51) (σ76 52) (τ 54) by rw [show σ76 51 = σ 51 from ((f78 51 (by decide)).trans (f54 51 (by decide))), show σ76 52 = σ 52 from ((f78 52 (by decide)).trans (f54 52 (by decide)))]; exact hr6), (show jBk (σ76 48) (σ76 80) (σ76 49) (σ76 81) (σ76 55 47).toInt by rw [show σ76 48 = σ 48 from ((f78 48 (by decide)).trans (f54 48 (by decide))), show σ76 49 = σ 49 from ((f78 49 (by decide)).trans (f54 49 (by decide))), show σ76 80 = σ 80 from ((f78 80 (by decide)).trans (f54 80 (by decide))), show σ76 81 = σ 81 from ((f78 81 (by decide)).trans (f54 81 (by decide))), show (σ76 55 47).toInt = (σ 55 47).toInt from by omega]; exact hr7)⟩ hP hS (lv_sub hl [0, 1, 2, 3] rfl)
    · obtain ⟨q141, k140⟩ := h90
      have z142 : (σ52 55 6).toInt = (σ 55 6).toInt := (congrArg Int32.toInt (show σ52 55 6 = (σ 55 6) from (congrFun (f54 55 (by decide)) 6)))
      rw [show (σ52 55 6).toInt = (σ 2 0).toInt from by omega] at k140
      exact absurd k140.1 k70
  · obtain ⟨q144, k143⟩ := h67
    refine lv_pop hx hb dL_law_301 rfl ?_
    refine lv_aload_n hx hb dL_law_302 rfl (lv_at hl 1 rfl) ?_
    refine lv_aload_n hx hb dL_law_303 rfl (lv_at hl 3 rfl) ?_
    refine lv_iload_n hx hb dL_law_304 rfl (lv_at hl 0 rfl) ?_
    refine lv_iconst (v := 1) hx hb dL_law_305 (by decide) ?_
    refine lv_iadd hx hb dL_law_306 ?_
    refine jtopr ex46.symm ?_
    refine va_sld hx hb hX hbl hbA hS (jin tx46 (by omega) (by omega)) dL_law_307 ?_
    refine lv_aload_n hx hb dL_law_308 rfl (lv_at hl 3 rfl) ?_
    refine lv_iload_n hx hb dL_law_309 rfl (lv_at hl 0 rfl) ?_
    refine lv_iconst (v := 2) hx hb dL_law_310 (by decide) ?_
    refine lv_iadd hx hb dL_law_311 ?_
    refine jtopr ex48.symm ?_
    refine va_sld hx hb hX hbl hbA hS (jin tx48 (by omega) (by omega)) dL_law_312 ?_
    refine lv_aload_n hx hb dL_law_313 rfl (lv_at hl 3 rfl) ?_
    refine lv_iload_n hx hb dL_law_314 rfl (lv_at hl 0 rfl) ?_
    refine lv_iconst (v := 3) hx hb dL_law_315 (by decide) ?_
    refine lv_iadd hx hb dL_law_316 ?_
    refine jtopr ex50.symm ?_
    refine va_sld hx hb hX hbl hbA hS (jin tx50 (by omega) (by omega)) dL_law_317 ?_
    have I145 : jI101 σ52 := jI101_fr (congrFun (f54 55 (by decide)) 4) (congrFun (f54 55 (by decide)) 5) (f54 56 (by decide)) (f54 57 (by decide)) (f54 58 (by decide)) (f54 59 (by decide)) hI101
    have z146 : (σ52 55 5).toInt = (σ 55 5).toInt := (congrArg Int32.toInt (show σ52 55 5 = (σ 55 5) from (congrFun (f54 55 (by decide)) 5)))
    have z147 : (σ52 55 4).toInt = (σ 55 4).toInt := (congrArg Int32.toInt (show σ52 55 4 = (σ 55 4) from (congrFun (f54 55 (by decide)) 4)))
    refine jcallV (As := [.int (xs x46.toNatClampNeg), .int (xs x48.toNatClampNeg), .int (xs x50.toNatClampNeg)]) (rest := []) ⟨hx, hb, hml, hown, hts⟩ hK hP hA hS hZ (c_X12_field l D cI cL ad zz hJ σ52 τ (xs x46.toNatClampNeg) ((xs x46.toNatClampNeg).toInt) rfl (xs x48.toNatClampNeg) ((xs x48.toNatClampNeg).toInt) rfl (xs x50.toNatClampNeg) ((xs x50.toNatClampNeg).toInt) rfl I145) cw_RL_25 (jc_55 cI cL ad σ52 τ) rfl ⟨Nat.le_of_ble_eq_true rfl, Nat.le_of_ble_eq_true rfl⟩ rfl rfl rfl hl.1 rfl (Nat.le_of_ble_eq_true rfl) dL_law_318 ⟨Nat.le_of_ble_eq_true rfl, Nat.le_of_ble_eq_true rfl⟩ (fun r149 σ148 τ148 H locs h148 hP hS => ?_)
    obtain ⟨rfl, f150, f151, I152, h148⟩ := h148
    obtain ⟨i154, i155, i156, w157, w158, w159, w160⟩ : (0 ≤ (σ148 55 5).toInt) ∧ ((σ148 55 5).toInt ≤ (σ148 55 4).toInt) ∧ ((σ148 55 4).toInt ≤ 40) ∧ (∀ k : Nat, k < 68 → (-200) ≤ (σ148 56 k).toInt ∧ (σ148 56 k).toInt ≤ 500) ∧ (∀ k : Nat, k < 40 → 0 ≤ (σ148 57 k).toInt ∧ (σ148 57 k).toInt ≤ 67) ∧ (∀ k : Nat, k < 40 → (-200) ≤ (σ148 58 k).toInt ∧ (σ148 58 k).toInt ≤ 500) ∧ (∀ k : Nat, k < 40 → (-200) ≤ (σ148 59 k).toInt ∧ (σ148 59 k).toInt ≤ 500) := id I152
    rcases h148 with h161 | h162
    · obtain ⟨q167, k163, k164, k165, k166⟩ := h161
      have q167 := q167.symm
      subst q167
      have z168 : (σ52 55 6).toInt = (σ 55 6).toInt := (congrArg Int32.toInt (show σ52 55 6 = (σ 55 6) from (congrFun (f54 55 (by decide)) 6)))
      rw [show (σ52 55 6).toInt = (σ 2 0).toInt from by omega] at k165
      exact absurd k143.1 k165
    · obtain ⟨q170, k169⟩ := h162
      have z171 : (σ52 55 6).toInt = (σ 55 6).toInt := (congrArg Int32.toInt (show σ52 55 6 = (σ 55 6) from (congrFun (f54 55 (by decide)) 6)))
      rw [show (σ52 55 6).toInt = (σ 2 0).toInt from by omega] at k169
      obtain ⟨e172, q173, l174, c175⟩ := k143
      obtain ⟨-, q176, l177, c178⟩ := k169
      have p179 := jField_pl (by omega) e172 l174 l177
      rw [show σ52 56 = σ 56 from (f54 56 (by decide)), show σ52 57 = σ 57 from (f54 57 (by decide)), show σ52 58 = σ 58 from (f54 58 (by decide)), show σ52 59 = σ 59 from (f54 59 (by decide)), show (σ52 55 4).toInt = (σ 55 4).toInt from by omega] at c178
      have r183 := hr0.res p179.1 (by have h9 := p179.2.1; omega) c175 c178 p179.2.2
      have k182 := hr0.chg p179.1 (by have h9 := p179.2.1; omega) c175 c178 p179.2.2 (by omega) (by omega) (by omega)
      have k180 := k182.2.1
      have k181 := k182.2.2
      have o184 : 32 ≤ q176 → q176 ≤ 35 → 0 ≤ (xs x50.toNatClampNeg).toInt ∧ (xs x50.toNatClampNeg).toInt ≤ 8 := fun x y => by
        have e := e172
        have l := l177
        unfold jFok at e; unfold jFpl at l; omega
      refine lv_pop hx hb dL_law_321 rfl ?_
      refine lv_goto (tgt := 1357) hx hb dL_law_322 (by decide) ?_
      obtain ⟨x185, ex185⟩ : ∃ y : Int32, y = x0 + 6 := ⟨_, rfl⟩
      have tx185 : x185.toInt = x0.toInt + 6 := (jadd ex185 rfl jz_6 (by omega) (by omega)).trans (by omega)
      refine lv_iinc (v := x185) (lv' := [(3, .int x185), (2, .ref (ad 55)), (1, .ref (ad 0)), (0, .ref b)]) hx hb dL_law_1357 hl (k := 0) rfl (by rw [ex185]; rfl) (by decide) rfl (fun ls hl => ?_)
      refine lv_goto (tgt := 18) hx hb dL_law_1360 (by decide) ?_
      have I186 : jI2 σ148 := jI2_fr (congrFun (f150 2 (by decide)) 0) (congrFun (f150 2 (by decide)) 1) (congrFun (f150 2 (by decide)) 2) (congrFun (f150 2 (by decide)) 3) (f150 6 (by decide)) I56
      have I187 : jI9 σ148 := jI9_fr ((congrFun (f150 9 (by decide)) 0).trans (congrFun (f54 9 (by decide)) 0)) ((f150 10 (by decide)).trans (f54 10 (by decide))) ((f150 11 (by decide)).trans (f54 11 (by decide))) hI9
      have I188 : jI12 σ148 := jI12_fr ((congrFun (f150 12 (by decide)) 0).trans (congrFun (f54 12 (by decide)) 0)) ((f150 13 (by decide)).trans (f54 13 (by decide))) hI12
      have I189 : jI16 σ148 := jI16_fr ((congrFun (f150 16 (by decide)) 0).trans (congrFun (f54 16 (by decide)) 0)) ((congrFun (f150 16 (by decide)) 1).trans (congrFun (f54 16 (by decide)) 1)) ((congrFun (f150 16 (by decide)) 2).trans (congrFun (f54 16 (by decide)) 2)) ((f150 17 (by decide)).trans (f54 17 (by decide))) hI16
      have I190 : jI18 σ148 := jI18_fr ((congrFun (f150 18 (by decide)) 0).trans (congrFun (f54 18 (by decide)) 0)) ((f150 19 (by decide)).trans (f54 19 (by decide))) hI18
      have I191 : jI22 σ148 := jI22_fr ((congrFun (f150 22 (by decide)) 0).trans (congrFun (f54 22 (by decide)) 0)) ((f150 23 (by decide)).trans (f54 23 (by decide))) hI22
      have I192 : jI31 σ148 := jI31_fr ((congrFun (f150 31 (by decide)) 8).trans (congrFun (f54 31 (by decide)) 8)) ((f150 33 (by decide)).trans (f54 33 (by decide))) ((f150 36 (by decide)).trans (f54 36 (by decide))) hI31
      have I193 : jI38 σ148 := jI38_fr ((congrFun (f150 38 (by decide)) 0).trans (congrFun (f54 38 (by decide)) 0)) ((congrFun (f150 38 (by decide)) 1).trans (congrFun (f54 38 (by decide)) 1)) ((f150 39 (by decide)).trans (f54 39 (by decide))) hI38
      have I194 : jI43 σ148 := jI43_fr ((congrFun (f150 43 (by decide)) 8).trans (congrFun (f54 43 (by decide)) 8)) hI43
      have I195 : jI47 σ148 := jI47_fr ((congrFun (f150 47 (by decide)) 0).trans (congrFun (f54 47 (by decide)) 0)) ((f150 48 (by decide)).trans (f54 48 (by decide))) ((f150 49 (by decide)).trans (f54 49 (by decide))) hI47
      have I196 : jI50 σ148 := jI50_fr ((f150 52 (by decide)).trans (f54 52 (by decide))) hI50
      have I197 : jI102 σ148 := jI102_fr ((f151 6 (by decide)).trans (congrFun (f54 55 (by decide)) 6)) ((f150 60 (by decide)).trans (f54 60 (by decide))) ((f150 61 (by decide)).trans (f54 61 (by decide))) hI102
      have I198 : jI103 σ148 := jI103_fr ((f151 9 (by decide)).trans (congrFun (f54 55 (by decide)) 9)) hI103
      have I199 : jI104 σ148 := jI104_fr ((f151 10 (by decide)).trans (congrFun (f54 55 (by decide)) 10)) ((f151 12 (by decide)).trans (congrFun (f54 55 (by decide)) 12)) ((f151 13 (by decide)).trans (congrFun (f54 55 (by decide)) 13)) ((f150 62 (by decide)).trans (f54 62 (by decide))) ((f150 67 (by decide)).trans (f54 67 (by decide))) hI104
      have I200 : jI105 σ148 := jI105_fr ((f151 15 (by decide)).trans (congrFun (f54 55 (by decide)) 15)) ((f150 65 (by decide)).trans (f54 65 (by decide))) hI105
      have I201 : jI106 σ148 := jI106_fr ((f151 32 (by decide)).trans (congrFun (f54 55 (by decide)) 32)) ((f150 70 (by decide)).trans (f54 70 (by decide))) ((f150 71 (by decide)).trans (f54 71 (by decide))) ((f150 72 (by decide)).trans (f54 72 (by decide))) hI106
      have I202 : jI107 σ148 := jI107_fr ((f151 12 (by decide)).trans (congrFun (f54 55 (by decide)) 12)) ((f151 47 (by decide)).trans (congrFun (f54 55 (by decide)) 47)) ((f150 80 (by decide)).trans (f54 80 (by decide))) hI107
      have I203 : jI109 σ148 := jI109_fr ((f151 50 (by decide)).trans (congrFun (f54 55 (by decide)) 50)) hI109
      have I204 : jI110 σ148 := jI110_fr ((f150 86 (by decide)).trans (f54 86 (by decide))) ((f150 87 (by decide)).trans (f54 87 (by decide))) hI110
      have I205 : jI111 σ148 := jI111_fr ((f150 79 (by decide)).trans (f54 79 (by decide))) hI111
      have I206 : jI119 σ148 := jI119_fr ((f150 68 (by decide)).trans (f54 68 (by decide))) hI119
      have p207 : jKept σ148 := jKept.fr ((f150 75 (by decide)).trans (f54 75 (by decide))) ((f150 76 (by decide)).trans (f54 76 (by decide))) ((f150 77 (by decide)).trans (f54 77 (by decide))) hs_jKept
      have p208 : jBook σ148 := jBook.fr ((f151 47 (by decide)).trans (congrFun (f54 55 (by decide)) 47)) ((f151 10 (by decide)).trans (congrFun (f54 55 (by decide)) 10)) ((f150 81 (by decide)).trans (f54 81 (by decide))) hs_jBook
      have z209 : (σ148 2 0).toInt = (σ 2 0).toInt := (congrArg Int32.toInt (show σ148 2 0 = (σ 2 0) from ((congrFun (f150 2 (by decide)) 0).trans (f55 0 (by decide)))))
      have z210 : (σ148 55 6).toInt = (σ 55 6).toInt := (congrArg Int32.toInt (show σ148 55 6 = (σ 55 6) from ((f151 6 (by decide)).trans (congrFun (f54 55 (by decide)) 6))))
      have z211 : (σ148 2 2).toInt = (σ52 2 2).toInt := (congrArg Int32.toInt (show σ148 2 2 = (σ52 2 2) from (congrFun (f150 2 (by decide)) 2)))
      have z212 : (σ148 2 3).toInt = (σ52 2 3).toInt := (congrArg Int32.toInt (show σ148 2 3 = (σ52 2 3) from (congrFun (f150 2 (by decide)) 3)))
      have z213 : (σ148 9 0).toInt = (σ 9 0).toInt := (congrArg Int32.toInt (show σ148 9 0 = (σ 9 0) from ((congrFun (f150 9 (by decide)) 0).trans (congrFun (f54 9 (by decide)) 0))))
      have z214 : (σ148 55 15).toInt = (σ 55 15).toInt := (congrArg Int32.toInt (show σ148 55 15 = (σ 55 15) from ((f151 15 (by decide)).trans (congrFun (f54 55 (by decide)) 15))))
      have z215 : (σ148 16 0).toInt = (σ 16 0).toInt := (congrArg Int32.toInt (show σ148 16 0 = (σ 16 0) from ((congrFun (f150 16 (by decide)) 0).trans (congrFun (f54 16 (by decide)) 0))))
      have z216 : (σ148 55 10).toInt = (σ 55 10).toInt := (congrArg Int32.toInt (show σ148 55 10 = (σ 55 10) from ((f151 10 (by decide)).trans (congrFun (f54 55 (by decide)) 10))))
      have z217 : (σ148 16 1).toInt = (σ 16 1).toInt := (congrArg Int32.toInt (show σ148 16 1 = (σ 16 1) from ((congrFun (f150 16 (by decide)) 1).trans (congrFun (f54 16 (by decide)) 1))))
      have z218 : (σ148 55 12).toInt = (σ 55 12).toInt := (congrArg Int32.toInt (show σ148 55 12 = (σ 55 12) from ((f151 12 (by decide)).trans (congrFun (f54 55 (by decide)) 12))))
      have z219 : (σ148 16 2).toInt = (σ 16 2).toInt := (congrArg Int32.toInt (show σ148 16 2 = (σ 16 2) from ((congrFun (f150 16 (by decide)) 2).trans (congrFun (f54 16 (by decide)) 2))))
      have z220 : (σ148 55 13).toInt = (σ 55 13).toInt := (congrArg Int32.toInt (show σ148 55 13 = (σ 55 13) from ((f151 13 (by decide)).trans (congrFun (f54 55 (by decide)) 13))))
      have z221 : (σ148 38 0).toInt = (σ 38 0).toInt := (congrArg Int32.toInt (show σ148 38 0 = (σ 38 0) from ((congrFun (f150 38 (by decide)) 0).trans (congrFun (f54 38 (by decide)) 0))))
      have z222 : (σ148 55 32).toInt = (σ 55 32).toInt := (congrArg Int32.toInt (show σ148 55 32 = (σ 55 32) from ((f151 32 (by decide)).trans (congrFun (f54 55 (by decide)) 32))))
      have z223 : (σ148 47 0).toInt = (σ 47 0).toInt := (congrArg Int32.toInt (show σ148 47 0 = (σ 47 0) from ((congrFun (f150 47 (by decide)) 0).trans (congrFun (f54 47 (by decide)) 0))))
      have z224 : (σ148 55 47).toInt = (σ 55 47).toInt := (congrArg Int32.toInt (show σ148 55 47 = (σ 55 47) from ((f151 47 (by decide)).trans (congrFun (f54 55 (by decide)) 47))))
      have z225 : (σ148 55 30).toInt = (σ 55 30).toInt := (congrArg Int32.toInt (show σ148 55 30 = (σ 55 30) from ((f151 30 (by decide)).trans (congrFun (f54 55 (by decide)) 30))))
      have z226 : (σ148 55 31).toInt = (σ 55 31).toInt := (congrArg Int32.toInt (show σ148 55 31 = (σ 55 31) from ((f151 31 (by decide)).trans (congrFun (f54 55 (by decide)) 31))))
      exact ih x185 σ148 τ _ _ ls (by have h9 := tx185; omega) ⟨I186, I187, I188, I189, I190, I191, I192, I193, I194, I195, I196, I152, I197, I198, I199, I200, I201, I202, I203, I204, I205, I206, p207, p208, (by omega), (by omega), (by omega), (by omega), (by omega), (by omega), (by omega), (by omega), (by omega), (by omega), (by omega), (show jNumP (σ148 3) (σ148 56) (σ148 6) (σ148 57) (σ148 7) (σ148 58) (σ148 8) (σ148 59) (σ148 55 6).toInt (σ148 55 4).toInt by rw [show σ148 3 = σ52 3 from (f150 3 (by decide)), show σ148 6 = σ52 6 from (f150 6 (by decide)), show σ148 7 = σ52 7 from (f150 7 (by decide)), show σ148 8 = σ52 8 from (f150 8 (by decide)), show (σ148 55 6).toInt = (σ 55 6).toInt from by omega]; exact k182.1), (hr1.chg c178 (by have h8 := p179.1; have h9 := p179.2.2; omega) (by omega) o184), (show jTp (σ148 10) (σ148 63) (σ148 55 15).toInt by rw [show σ148 10 = σ 10 from ((f150 10 (by decide)).trans (f54 10 (by decide))), show σ148 63 = σ 63 from ((f150 63 (by decide)).trans (f54 63 (by decide)))]; exact hr2.le (by omega)), (show jSo (σ148 17) (σ148 62) (σ148 16 0).toInt by rw [show σ148 17 = σ 17 from ((f150 17 (by decide)).trans (f54 17 (by decide))), show σ148 62 = σ 62 from ((f150 62 (by decide)).trans (f54 62 (by decide))), show (σ148 16 0).toInt = (σ 16 0).toInt from by omega]; exact hr3), (show jShP (σ148 51) (σ148 52) (σ148 53) (σ148 86) (σ148 87) (σ148 55 32).toInt by rw [show σ148 51 = σ 51 from ((f150 51 (by decide)).trans (f54 51 (by decide))), show σ148 52 = σ 52 from ((f150 52 (by decide)).trans (f54 52 (by decide))), show σ148 53 = σ 53 from ((f150 53 (by decide)).trans (f54 53 (by decide))), show σ148 86 = σ 86 from ((f150 86 (by decide)).trans (f54 86 (by decide))), show σ148 87 = σ 87 from ((f150 87 (by decide)).trans (f54 87 (by decide)))]; exact (hr4.up (by omega) (by omega))), (show jEl (σ148 51) (σ148 52) (τ 54) (τ 88) by rw [show σ148 51 = σ 51 from ((f150 51 (by decide)).trans (f54 51 (by decide))), show σ148 52 = σ 52 from ((f150 52 (by decide)).trans (f54 52 (by decide)))]; exact hr5), (show jByP (σ148 51) (σ148 52) (τ 54) by rw [show σ148 51 = σ 51 from ((f150 51 (by decide)).trans (f54 51 (by decide))), show σ148 52 = σ 52 from ((f150 52 (by decide)).trans (f54 52 (by decide)))]; exact hr6), (show jBk (σ148 48) (σ148 80) (σ148 49) (σ148 81) (σ148 55 47).toInt by rw [show σ148 48 = σ 48 from ((f150 48 (by decide)).trans (f54 48 (by decide))), show σ148 49 = σ 49 from ((f150 49 (by decide)).trans (f54 49 (by decide))), show σ148 80 = σ 80 from ((f150 80 (by decide)).trans (f54 80 (by decide))), show σ148 81 = σ 81 from ((f150 81 (by decide)).trans (f54 81 (by decide))), show (σ148 55 47).toInt = (σ 55 47).toInt from by omega]; exact hr7)⟩ hP hS (lv_sub hl [0, 1, 2, 3] rfl)
set_option maxHeartbeats 4000000 in
set_option maxRecDepth 100000 in
theorem law_case_3 {p : Program} {e : Env} {s : State} {m : MethodId} {below : List Frame} {meth : Method} {c : Code} (l : Launch) {b L : Nat} {xs : Nat → Int32} {D : va_G} {cI cL : ClassId} {ad zz : Nat → Nat} (C0 : lw_At p s m meth c b L xs) (hJ : jD ad) (hA : ∀ q, jA ad q → s.heap.size ≤ q) (hK : jK D cI cL s) (hZ : jZ zz (fun q : Nat => s.heap.size ≤ q) s s.heap) {x0 : Int32} (hx0 : 0 ≤ x0.toInt) (hxL : x0.toInt + 6 ≤ (L : Int)) (hL : L ≤ 384) {σ : Nat → Nat → Int32} {τ : Nat → Nat → Int64} {H : Heap} {locs : List Loc} (hS : va_S (fun q : Nat => s.heap.size ≤ q) s.heap H locs) {ls : Array Slot} (hAll : jAll σ τ) (hP : jH D cI cL ad σ τ H) (hl : lv_has ls 4 [(3, .int x0), (2, .ref (ad 55)), (1, .ref (ad 0)), (0, .ref b)]) (ih : ∀ (x1 : Int32) (σ : Nat → Nat → Int32) (τ : Nat → Nat → Int64) (H : Heap) (locs : List Loc) (ls : Array Slot), x1.toInt = x0.toInt + 6 → jAll σ τ → jH D cI cL ad σ τ H → va_S (fun q : Nat => s.heap.size ≤ q) s.heap H locs → lv_has ls 4 [(3, .int x1), (2, .ref (ad 55)), (1, .ref (ad 0)), (0, .ref b)] → W p l e room_1 s m #[Value.ref b] below meth c H locs 90 348600 (lw_Z below #[Value.ref b] s) (F0 m 18 ls [])) : W p l e room_1 s m #[Value.ref b] below meth c H locs 90 348600 (lw_Z below #[Value.ref b] s) (F0 m 325 ls []) := by
  obtain ⟨hx, hb, hr, hml, hown, hts0, hX, hbl, hlocks, hgv⟩ := C0
  have hts : ∀ w ∈ wsL_law, w.before #[Value.ref b] s = true := fun w h => hts0 w (wsL_law_in w h)
  have hbA : ¬ (fun q : Nat => s.heap.size ≤ q) b := Nat.not_le.mpr hbl
  have hown : s.vm.findClass RL = some m.cls := hown
  obtain ⟨hI2, hI9, hI12, hI16, hI18, hI22, hI31, hI38, hI43, hI47, hI50, hI101, hI102, hI103, hI104, hI105, hI106, hI107, hI109, hI110, hI111, hI119, hs_jKept, hs_jBook, ht0, ht1, ht2, ht3, ht4, ht5, ht6, ht7, ht8, ht9, ht10, hr0, hr1, hr2, hr3, hr4, hr5, hr6, hr7⟩ := hAll
  have hL9 : (L : Int) ≤ 384 := by omega
  obtain ⟨i1, i2, i3, i4, i5, w6⟩ : (0 ≤ (σ 2 0).toInt ∧ (σ 2 0).toInt ≤ 4) ∧ (0 ≤ (σ 2 1).toInt ∧ (σ 2 1).toInt ≤ 3) ∧ (0 ≤ (σ 2 2).toInt) ∧ (0 ≤ (σ 2 3).toInt) ∧ ((σ 2 2).toInt + (σ 2 3).toInt ≤ 40) ∧ (∀ k : Nat, k < 40 → 0 ≤ (σ 6 k).toInt ∧ (σ 6 k).toInt ≤ 67) := id hI2
  obtain ⟨i7, w8, w9⟩ : (0 ≤ (σ 9 0).toInt ∧ (σ 9 0).toInt ≤ 80) ∧ (∀ k : Nat, k < 80 → 0 ≤ (σ 10 k).toInt ∧ (σ 10 k).toInt ≤ 255) ∧ (∀ k : Nat, k < 8 → 0 ≤ (σ 11 k).toInt ∧ (σ 11 k).toInt ≤ 3) := id hI9
  obtain ⟨i10, i11, i12, w13⟩ : (1 ≤ (σ 16 0).toInt ∧ (σ 16 0).toInt ≤ 8) ∧ (1 ≤ (σ 16 1).toInt ∧ (σ 16 1).toInt ≤ 12) ∧ (0 ≤ (σ 16 2).toInt ∧ (σ 16 2).toInt ≤ 999) ∧ (∀ k : Nat, k < 8 → 0 ≤ (σ 17 k).toInt ∧ (σ 17 k).toInt ≤ 3) := id hI16
  obtain ⟨i14, i15, w16⟩ : (0 ≤ (σ 38 0).toInt ∧ (σ 38 0).toInt ≤ 20) ∧ (0 ≤ (σ 38 1).toInt ∧ (σ 38 1).toInt ≤ 1000) ∧ (∀ k : Nat, k < 20 → 0 ≤ (σ 39 k).toInt ∧ (σ 39 k).toInt ≤ 6) := id hI38
  obtain ⟨i17, w18, w19⟩ : (0 ≤ (σ 47 0).toInt ∧ (σ 47 0).toInt ≤ 12) ∧ (∀ k : Nat, k < 12 → 0 ≤ (σ 48 k).toInt ∧ (σ 48 k).toInt ≤ 3) ∧ (∀ k : Nat, k < 12 → 0 ≤ (σ 49 k).toInt ∧ (σ 49 k).toInt ≤ 1) := id hI47
  have w20 : ∀ k : Nat, k < 6 → 0 ≤ (σ 52 k).toInt ∧ (σ 52 k).toInt ≤ 60 := hI50
  obtain ⟨i21, i22, i23, w24, w25, w26, w27⟩ : (0 ≤ (σ 55 5).toInt) ∧ ((σ 55 5).toInt ≤ (σ 55 4).toInt) ∧ ((σ 55 4).toInt ≤ 40) ∧ (∀ k : Nat, k < 68 → (-200) ≤ (σ 56 k).toInt ∧ (σ 56 k).toInt ≤ 500) ∧ (∀ k : Nat, k < 40 → 0 ≤ (σ 57 k).toInt ∧ (σ 57 k).toInt ≤ 67) ∧ (∀ k : Nat, k < 40 → (-200) ≤ (σ 58 k).toInt ∧ (σ 58 k).toInt ≤ 500) ∧ (∀ k : Nat, k < 40 → (-200) ≤ (σ 59 k).toInt ∧ (σ 59 k).toInt ≤ 500) := id hI101
  obtain ⟨i28, w29, w30⟩ : (0 ≤ (σ 55 6).toInt ∧ (σ 55 6).toInt ≤ 4) ∧ (∀ k : Nat, k < 4 → 0 ≤ (σ 60 k).toInt ∧ (σ 60 k).toInt ≤ 50) ∧ (∀ k : Nat, k < 4 → 0 ≤ (σ 61 k).toInt ∧ (σ 61 k).toInt ≤ 20) := id hI102
  obtain ⟨i31, i32, i33, w34, w35⟩ : (1 ≤ (σ 55 10).toInt ∧ (σ 55 10).toInt ≤ 8) ∧ (1 ≤ (σ 55 12).toInt ∧ (σ 55 12).toInt ≤ 12) ∧ (0 ≤ (σ 55 13).toInt ∧ (σ 55 13).toInt ≤ 999) ∧ (∀ k : Nat, k < 8 → 0 ≤ (σ 62 k).toInt ∧ (σ 62 k).toInt ≤ 3) ∧ (∀ k : Nat, k < 8 → 0 ≤ (σ 67 k).toInt ∧ (σ 67 k).toInt ≤ 3) := id hI104
  obtain ⟨i36, w37⟩ : (0 ≤ (σ 55 15).toInt ∧ (σ 55 15).toInt ≤ 80) ∧ (∀ k : Nat, k < 2 → (-1) ≤ (σ 65 k).toInt ∧ (σ 65 k).toInt ≤ 80) := id hI105
  obtain ⟨i38, w39, w40, w41⟩ : (0 ≤ (σ 55 32).toInt ∧ (σ 55 32).toInt ≤ 20) ∧ (∀ k : Nat, k < 20 → 0 ≤ (σ 70 k).toInt ∧ (σ 70 k).toInt ≤ 6) ∧ (∀ k : Nat, k < 20 → 0 ≤ (σ 71 k).toInt ∧ (σ 71 k).toInt ≤ 8) ∧ (∀ k : Nat, k < 160 → 0 ≤ (σ 72 k).toInt ∧ (σ 72 k).toInt ≤ 3) := id hI106
  obtain ⟨i42, i43, w44⟩ : (0 ≤ (σ 55 47).toInt ∧ (σ 55 47).toInt ≤ 12) ∧ ((σ 55 47).toInt ≤ (σ 55 12).toInt) ∧ (∀ k : Nat, k < 12 → 0 ≤ (σ 80 k).toInt ∧ (σ 80 k).toInt ≤ 3) := id hI107
  refine lv_aload_n hx hb dL_law_325 rfl (lv_at hl 2 rfl) ?_
  refine lv_aload_n hx hb dL_law_326 rfl (lv_at hl 3 rfl) ?_
  refine lv_iload_n hx hb dL_law_327 rfl (lv_at hl 0 rfl) ?_
  refine lv_iconst (v := 1) hx hb dL_law_328 (by decide) ?_
  have g45 := jrg (rfl : x0.toInt = x0.toInt)
  refine lv_iadd hx hb dL_law_329 ?_
  refine lv_topi (fun x46 ex46 => ?_)
  have tx46 : x46.toInt = x0.toInt + 1 := (jadd ex46 rfl jz_1 (by omega) (by omega)).trans (by omega)
  refine va_sld hx hb hX hbl hbA hS (jin tx46 (by omega) (by omega)) dL_law_330 ?_
  have g47 := jrg (rfl : (xs x46.toNatClampNeg).toInt = (xs x46.toNatClampNeg).toInt)
  refine jcallV (As := [.int (xs x46.toNatClampNeg)]) (rest := []) ⟨hx, hb, hml, hown, hts⟩ hK hP hA hS hZ (c_X11_set l D cI cL ad zz hJ σ τ (xs x46.toNatClampNeg) ((xs x46.toNatClampNeg).toInt) rfl hI2) cw_RL_26 (jc_0 cI cL ad σ τ) rfl ⟨Nat.le_of_ble_eq_true rfl, Nat.le_of_ble_eq_true rfl⟩ rfl rfl rfl hl.1 rfl (Nat.le_of_ble_eq_true rfl) dL_law_331 ⟨Nat.le_of_ble_eq_true rfl, Nat.le_of_ble_eq_true rfl⟩ (fun r49 σ48 τ48 H locs h48 hP hS => ?_)
  obtain ⟨rfl, f50, f51, I52, h48⟩ := h48
  obtain ⟨i54, i55, i56, i57, i58, w59⟩ : (0 ≤ (σ48 2 0).toInt ∧ (σ48 2 0).toInt ≤ 4) ∧ (0 ≤ (σ48 2 1).toInt ∧ (σ48 2 1).toInt ≤ 3) ∧ (0 ≤ (σ48 2 2).toInt) ∧ (0 ≤ (σ48 2 3).toInt) ∧ ((σ48 2 2).toInt + (σ48 2 3).toInt ≤ 40) ∧ (∀ k : Nat, k < 40 → 0 ≤ (σ48 6 k).toInt ∧ (σ48 6 k).toInt ≤ 67) := id I52
  have z60 : (σ48 2 0).toInt = (σ 2 0).toInt := (congrArg Int32.toInt (show σ48 2 0 = (σ 2 0) from (f51 0 (by decide))))
  have z61 : (σ48 2 2).toInt = (σ 2 2).toInt := (congrArg Int32.toInt (show σ48 2 2 = (σ 2 2) from (f51 2 (by decide))))
  have z62 : (σ48 2 3).toInt = (σ 2 3).toInt := (congrArg Int32.toInt (show σ48 2 3 = (σ 2 3) from (f51 3 (by decide))))
  rcases h48 with h63 | h64
  · obtain ⟨q68, k65, k66, k67⟩ := h63
    refine lv_pop hx hb dL_law_334 rfl ?_
    refine lv_aload_n hx hb dL_law_335 rfl (lv_at hl 1 rfl) ?_
    refine lv_aload_n hx hb dL_law_336 rfl (lv_at hl 3 rfl) ?_
    refine lv_iload_n hx hb dL_law_337 rfl (lv_at hl 0 rfl) ?_
    refine lv_iconst (v := 1) hx hb dL_law_338 (by decide) ?_
    refine lv_iadd hx hb dL_law_339 ?_
    refine jtopr ex46.symm ?_
    refine va_sld hx hb hX hbl hbA hS (jin tx46 (by omega) (by omega)) dL_law_340 ?_
    have I69 : jI103 σ48 := jI103_fr (congrFun (f50 55 (by decide)) 9) hI103
    have z70 : (σ48 55 9).toInt = (σ 55 9).toInt := (congrArg Int32.toInt (show σ48 55 9 = (σ 55 9) from (congrFun (f50 55 (by decide)) 9)))
    refine jcallV (As := [.int (xs x46.toNatClampNeg)]) (rest := []) ⟨hx, hb, hml, hown, hts⟩ hK hP hA hS hZ (c_X12_set l D cI cL ad zz hJ σ48 τ (xs x46.toNatClampNeg) ((xs x46.toNatClampNeg).toInt) rfl I69) cw_RL_30 (jc_55 cI cL ad σ48 τ) rfl ⟨Nat.le_of_ble_eq_true rfl, Nat.le_of_ble_eq_true rfl⟩ rfl rfl rfl hl.1 rfl (Nat.le_of_ble_eq_true rfl) dL_law_341 ⟨Nat.le_of_ble_eq_true rfl, Nat.le_of_ble_eq_true rfl⟩ (fun r72 σ71 τ71 H locs h71 hP hS => ?_)
    obtain ⟨rfl, f73, f74, I75, h71⟩ := h71
    rcases h71 with h77 | h78
    · obtain ⟨q82, k79, k80, k81⟩ := h77
      refine lv_pop hx hb dL_law_344 rfl ?_
      refine lv_goto (tgt := 1357) hx hb dL_law_345 (by decide) ?_
      obtain ⟨x83, ex83⟩ : ∃ y : Int32, y = x0 + 6 := ⟨_, rfl⟩
      have tx83 : x83.toInt = x0.toInt + 6 := (jadd ex83 rfl jz_6 (by omega) (by omega)).trans (by omega)
      refine lv_iinc (v := x83) (lv' := [(3, .int x83), (2, .ref (ad 55)), (1, .ref (ad 0)), (0, .ref b)]) hx hb dL_law_1357 hl (k := 0) rfl (by rw [ex83]; rfl) (by decide) rfl (fun ls hl => ?_)
      refine lv_goto (tgt := 18) hx hb dL_law_1360 (by decide) ?_
      have I84 : jI2 σ71 := jI2_fr (congrFun (f73 2 (by decide)) 0) (congrFun (f73 2 (by decide)) 1) (congrFun (f73 2 (by decide)) 2) (congrFun (f73 2 (by decide)) 3) (f73 6 (by decide)) I52
      have I85 : jI9 σ71 := jI9_fr ((congrFun (f73 9 (by decide)) 0).trans (congrFun (f50 9 (by decide)) 0)) ((f73 10 (by decide)).trans (f50 10 (by decide))) ((f73 11 (by decide)).trans (f50 11 (by decide))) hI9
      have I86 : jI12 σ71 := jI12_fr ((congrFun (f73 12 (by decide)) 0).trans (congrFun (f50 12 (by decide)) 0)) ((f73 13 (by decide)).trans (f50 13 (by decide))) hI12
      have I87 : jI16 σ71 := jI16_fr ((congrFun (f73 16 (by decide)) 0).trans (congrFun (f50 16 (by decide)) 0)) ((congrFun (f73 16 (by decide)) 1).trans (congrFun (f50 16 (by decide)) 1)) ((congrFun (f73 16 (by decide)) 2).trans (congrFun (f50 16 (by decide)) 2)) ((f73 17 (by decide)).trans (f50 17 (by decide))) hI16
      have I88 : jI18 σ71 := jI18_fr ((congrFun (f73 18 (by decide)) 0).trans (congrFun (f50 18 (by decide)) 0)) ((f73 19 (by decide)).trans (f50 19 (by decide))) hI18
      have I89 : jI22 σ71 := jI22_fr ((congrFun (f73 22 (by decide)) 0).trans (congrFun (f50 22 (by decide)) 0)) ((f73 23 (by decide)).trans (f50 23 (by decide))) hI22
      have I90 : jI31 σ71 := jI31_fr ((congrFun (f73 31 (by decide)) 8).trans (congrFun (f50 31 (by decide)) 8)) ((f73 33 (by decide)).trans (f50 33 (by decide))) ((f73 36 (by decide)).trans (f50 36 (by decide))) hI31
      have I91 : jI38 σ71 := jI38_fr ((congrFun (f73 38 (by decide)) 0).trans (congrFun (f50 38 (by decide)) 0)) ((congrFun (f73 38 (by decide)) 1).trans (congrFun (f50 38 (by decide)) 1)) ((f73 39 (by decide)).trans (f50 39 (by decide))) hI38
      have I92 : jI43 σ71 := jI43_fr ((congrFun (f73 43 (by decide)) 8).trans (congrFun (f50 43 (by decide)) 8)) hI43
      have I93 : jI47 σ71 := jI47_fr ((congrFun (f73 47 (by decide)) 0).trans (congrFun (f50 47 (by decide)) 0)) ((f73 48 (by decide)).trans (f50 48 (by decide))) ((f73 49 (by decide)).trans (f50 49 (by decide))) hI47
      have I94 : jI50 σ71 := jI50_fr ((f73 52 (by decide)).trans (f50 52 (by decide))) hI50
      have I95 : jI101 σ71 := jI101_fr ((f74 4 (by decide)).trans (congrFun (f50 55 (by decide)) 4)) ((f74 5 (by decide)).trans (congrFun (f50 55 (by decide)) 5)) ((f73 56 (by decide)).trans (f50 56 (by decide))) ((f73 57 (by decide)).trans (f50 57 (by decide))) ((f73 58 (by decide)).trans (f50 58 (by decide))) ((f73 59 (by decide)).trans (f50 59 (by decide))) hI101
      have I96 : jI102 σ71 := jI102_fr ((f74 6 (by decide)).trans (congrFun (f50 55 (by decide)) 6)) ((f73 60 (by decide)).trans (f50 60 (by decide))) ((f73 61 (by decide)).trans (f50 61 (by decide))) hI102
      have I97 : jI104 σ71 := jI104_fr ((f74 10 (by decide)).trans (congrFun (f50 55 (by decide)) 10)) ((f74 12 (by decide)).trans (congrFun (f50 55 (by decide)) 12)) ((f74 13 (by decide)).trans (congrFun (f50 55 (by decide)) 13)) ((f73 62 (by decide)).trans (f50 62 (by decide))) ((f73 67 (by decide)).trans (f50 67 (by decide))) hI104
      have I98 : jI105 σ71 := jI105_fr ((f74 15 (by decide)).trans (congrFun (f50 55 (by decide)) 15)) ((f73 65 (by decide)).trans (f50 65 (by decide))) hI105
      have I99 : jI106 σ71 := jI106_fr ((f74 32 (by decide)).trans (congrFun (f50 55 (by decide)) 32)) ((f73 70 (by decide)).trans (f50 70 (by decide))) ((f73 71 (by decide)).trans (f50 71 (by decide))) ((f73 72 (by decide)).trans (f50 72 (by decide))) hI106
      have I100 : jI107 σ71 := jI107_fr ((f74 12 (by decide)).trans (congrFun (f50 55 (by decide)) 12)) ((f74 47 (by decide)).trans (congrFun (f50 55 (by decide)) 47)) ((f73 80 (by decide)).trans (f50 80 (by decide))) hI107
      have I101 : jI109 σ71 := jI109_fr ((f74 50 (by decide)).trans (congrFun (f50 55 (by decide)) 50)) hI109
      have I102 : jI110 σ71 := jI110_fr ((f73 86 (by decide)).trans (f50 86 (by decide))) ((f73 87 (by decide)).trans (f50 87 (by decide))) hI110
      have I103 : jI111 σ71 := jI111_fr ((f73 79 (by decide)).trans (f50 79 (by decide))) hI111
      have I104 : jI119 σ71 := jI119_fr ((f73 68 (by decide)).trans (f50 68 (by decide))) hI119
      have p105 : jKept σ71 := jKept.fr ((f73 75 (by decide)).trans (f50 75 (by decide))) ((f73 76 (by decide)).trans (f50 76 (by decide))) ((f73 77 (by decide)).trans (f50 77 (by decide))) hs_jKept
      have p106 : jBook σ71 := jBook.fr ((f74 47 (by decide)).trans (congrFun (f50 55 (by decide)) 47)) ((f74 10 (by decide)).trans (congrFun (f50 55 (by decide)) 10)) ((f73 81 (by decide)).trans (f50 81 (by decide))) hs_jBook
      have z107 : (σ71 2 0).toInt = (σ 2 0).toInt := (congrArg Int32.toInt (show σ71 2 0 = (σ 2 0) from ((congrFun (f73 2 (by decide)) 0).trans (f51 0 (by decide)))))
      have z108 : (σ71 55 6).toInt = (σ 55 6).toInt := (congrArg Int32.toInt (show σ71 55 6 = (σ 55 6) from ((f74 6 (by decide)).trans (congrFun (f50 55 (by decide)) 6))))
      have z109 : (σ71 2 2).toInt = (σ 2 2).toInt := (congrArg Int32.toInt (show σ71 2 2 = (σ 2 2) from ((congrFun (f73 2 (by decide)) 2).trans (f51 2 (by decide)))))
      have z110 : (σ71 55 5).toInt = (σ 55 5).toInt := (congrArg Int32.toInt (show σ71 55 5 = (σ 55 5) from ((f74 5 (by decide)).trans (congrFun (f50 55 (by decide)) 5))))
      have z111 : (σ71 2 3).toInt = (σ 2 3).toInt := (congrArg Int32.toInt (show σ71 2 3 = (σ 2 3) from ((congrFun (f73 2 (by decide)) 3).trans (f51 3 (by decide)))))
      have z112 : (σ71 55 4).toInt = (σ 55 4).toInt := (congrArg Int32.toInt (show σ71 55 4 = (σ 55 4) from ((f74 4 (by decide)).trans (congrFun (f50 55 (by decide)) 4))))
      have z113 : (σ71 9 0).toInt = (σ 9 0).toInt := (congrArg Int32.toInt (show σ71 9 0 = (σ 9 0) from ((congrFun (f73 9 (by decide)) 0).trans (congrFun (f50 9 (by decide)) 0))))
      have z114 : (σ71 55 15).toInt = (σ 55 15).toInt := (congrArg Int32.toInt (show σ71 55 15 = (σ 55 15) from ((f74 15 (by decide)).trans (congrFun (f50 55 (by decide)) 15))))
      have z115 : (σ71 16 0).toInt = (σ 16 0).toInt := (congrArg Int32.toInt (show σ71 16 0 = (σ 16 0) from ((congrFun (f73 16 (by decide)) 0).trans (congrFun (f50 16 (by decide)) 0))))
      have z116 : (σ71 55 10).toInt = (σ 55 10).toInt := (congrArg Int32.toInt (show σ71 55 10 = (σ 55 10) from ((f74 10 (by decide)).trans (congrFun (f50 55 (by decide)) 10))))
      have z117 : (σ71 16 1).toInt = (σ 16 1).toInt := (congrArg Int32.toInt (show σ71 16 1 = (σ 16 1) from ((congrFun (f73 16 (by decide)) 1).trans (congrFun (f50 16 (by decide)) 1))))
      have z118 : (σ71 55 12).toInt = (σ 55 12).toInt := (congrArg Int32.toInt (show σ71 55 12 = (σ 55 12) from ((f74 12 (by decide)).trans (congrFun (f50 55 (by decide)) 12))))
      have z119 : (σ71 16 2).toInt = (σ 16 2).toInt := (congrArg Int32.toInt (show σ71 16 2 = (σ 16 2) from ((congrFun (f73 16 (by decide)) 2).trans (congrFun (f50 16 (by decide)) 2))))
      have z120 : (σ71 55 13).toInt = (σ 55 13).toInt := (congrArg Int32.toInt (show σ71 55 13 = (σ 55 13) from ((f74 13 (by decide)).trans (congrFun (f50 55 (by decide)) 13))))
      have z121 : (σ71 38 0).toInt = (σ 38 0).toInt := (congrArg Int32.toInt (show σ71 38 0 = (σ 38 0) from ((congrFun (f73 38 (by decide)) 0).trans (congrFun (f50 38 (by decide)) 0))))
      have z122 : (σ71 55 32).toInt = (σ 55 32).toInt := (congrArg Int32.toInt (show σ71 55 32 = (σ 55 32) from ((f74 32 (by decide)).trans (congrFun (f50 55 (by decide)) 32))))
      have z123 : (σ71 47 0).toInt = (σ 47 0).toInt := (congrArg Int32.toInt (show σ71 47 0 = (σ 47 0) from ((congrFun (f73 47 (by decide)) 0).trans (congrFun (f50 47 (by decide)) 0))))
      have z124 : (σ71 55 47).toInt = (σ 55 47).toInt := (congrArg Int32.toInt (show σ71 55 47 = (σ 55 47) from ((f74 47 (by decide)).trans (congrFun (f50 55 (by decide)) 47))))
      have z125 : (σ71 55 30).toInt = (σ 55 30).toInt := (congrArg Int32.toInt (show σ71 55 30 = (σ 55 30) from ((f74 30 (by decide)).trans (congrFun (f50 55 (by decide)) 30))))
      have z126 : (σ71 55 31).toInt = (σ 55 31).toInt := (congrArg Int32.toInt (show σ71 55 31 = (σ 55 31) from ((f74 31 (by decide)).trans (congrFun (f50 55 (by decide)) 31))))
      exact ih x83 σ71 τ _ _ ls (by have h9 := tx83; omega) ⟨I84, I85, I86, I87, I88, I89, I90, I91, I92, I93, I94, I95, I96, I75, I97, I98, I99, I100, I101, I102, I103, I104, p105, p106, (by omega), (by omega), (by omega), (by omega), (by omega), (by omega), (by omega), (by omega), (by omega), (by omega), (by omega), (show jNumP (σ71 3) (σ71 56) (σ71 6) (σ71 57) (σ71 7) (σ71 58) (σ71 8) (σ71 59) (σ71 55 6).toInt (σ71 55 4).toInt by rw [show σ71 3 = σ 3 from ((f73 3 (by decide)).trans (f50 3 (by decide))), show σ71 56 = σ 56 from ((f73 56 (by decide)).trans (f50 56 (by decide))), show σ71 6 = σ 6 from ((f73 6 (by decide)).trans (f50 6 (by decide))), show σ71 57 = σ 57 from ((f73 57 (by decide)).trans (f50 57 (by decide))), show σ71 7 = σ 7 from ((f73 7 (by decide)).trans (f50 7 (by decide))), show σ71 58 = σ 58 from ((f73 58 (by decide)).trans (f50 58 (by decide))), show σ71 8 = σ 8 from ((f73 8 (by decide)).trans (f50 8 (by decide))), show σ71 59 = σ 59 from ((f73 59 (by decide)).trans (f50 59 (by decide))), show (σ71 55 6).toInt = (σ 55 6).toInt from by omega, show (σ71 55 4).toInt = (σ 55 4).toInt from by omega]; exact hr0), (show jOvP (σ71 56) (σ71 57) (σ71 58) (σ71 59) (σ71 55 4).toInt by rw [show σ71 56 = σ 56 from ((f73 56 (by decide)).trans (f50 56 (by decide))), show σ71 57 = σ 57 from ((f73 57 (by decide)).trans (f50 57 (by decide))), show σ71 58 = σ 58 from ((f73 58 (by decide)).trans (f50 58 (by decide))), show σ71 59 = σ 59 from ((f73 59 (by decide)).trans (f50 59 (by decide))), show (σ71 55 4).toInt = (σ 55 4).toInt from by omega]; exact hr1), (show jTp (σ71 10) (σ71 63) (σ71 55 15).toInt by rw [show σ71 10 = σ 10 from ((f73 10 (by decide)).trans (f50 10 (by decide))), show σ71 63 = σ 63 from ((f73 63 (by decide)).trans (f50 63 (by decide)))]; exact hr2.le (by omega)), (show jSo (σ71 17) (σ71 62) (σ71 16 0).toInt by rw [show σ71 17 = σ 17 from ((f73 17 (by decide)).trans (f50 17 (by decide))), show σ71 62 = σ 62 from ((f73 62 (by decide)).trans (f50 62 (by decide))), show (σ71 16 0).toInt = (σ 16 0).toInt from by omega]; exact hr3), (show jShP (σ71 51) (σ71 52) (σ71 53) (σ71 86) (σ71 87) (σ71 55 32).toInt by rw [show σ71 51 = σ 51 from ((f73 51 (by decide)).trans (f50 51 (by decide))), show σ71 52 = σ 52 from ((f73 52 (by decide)).trans (f50 52 (by decide))), show σ71 53 = σ 53 from ((f73 53 (by decide)).trans (f50 53 (by decide))), show σ71 86 = σ 86 from ((f73 86 (by decide)).trans (f50 86 (by decide))), show σ71 87 = σ 87 from ((f73 87 (by decide)).trans (f50 87 (by decide)))]; exact (hr4.up (by omega) (by omega))), (show jEl (σ71 51) (σ71 52) (τ 54) (τ 88) by rw [show σ71 51 = σ 51 from ((f73 51 (by decide)).trans (f50 51 (by decide))), show σ71 52 = σ 52 from ((f73 52 (by decide)).trans (f50 52 (by decide)))]; exact hr5), (show jByP (σ71 51) (σ71 52) (τ 54) by rw [show σ71 51 = σ 51 from ((f73 51 (by decide)).trans (f50 51 (by decide))), show σ71 52 = σ 52 from ((f73 52 (by decide)).trans (f50 52 (by decide)))]; exact hr6), (show jBk (σ71 48) (σ71 80) (σ71 49) (σ71 81) (σ71 55 47).toInt by rw [show σ71 48 = σ 48 from ((f73 48 (by decide)).trans (f50 48 (by decide))), show σ71 49 = σ 49 from ((f73 49 (by decide)).trans (f50 49 (by decide))), show σ71 80 = σ 80 from ((f73 80 (by decide)).trans (f50 80 (by decide))), show σ71 81 = σ 81 from ((f73 81 (by decide)).trans (f50 81 (by decide))), show (σ71 55 47).toInt = (σ 55 47).toInt from by omega]; exact hr7)⟩ hP hS (lv_sub hl [0, 1, 2, 3] rfl)
    · obtain ⟨q130, k128, k129⟩ := h78
      exact absurd (by omega : False) id
  · obtain ⟨q133, k131, k132⟩ := h64
    have q133 := q133.symm
    subst q133
    refine lv_pop hx hb dL_law_334 rfl ?_
    refine lv_aload_n hx hb dL_law_335 rfl (lv_at hl 1 rfl) ?_
    refine lv_aload_n hx hb dL_law_336 rfl (lv_at hl 3 rfl) ?_
    refine lv_iload_n hx hb dL_law_337 rfl (lv_at hl 0 rfl) ?_
    refine lv_iconst (v := 1) hx hb dL_law_338 (by decide) ?_
    refine lv_iadd hx hb dL_law_339 ?_
    refine jtopr ex46.symm ?_
    refine va_sld hx hb hX hbl hbA hS (jin tx46 (by omega) (by omega)) dL_law_340 ?_
    have I134 : jI103 σ48 := jI103_fr (congrFun (f50 55 (by decide)) 9) hI103
    have z135 : (σ48 55 9).toInt = (σ 55 9).toInt := (congrArg Int32.toInt (show σ48 55 9 = (σ 55 9) from (congrFun (f50 55 (by decide)) 9)))
    refine jcallV (As := [.int (xs x46.toNatClampNeg)]) (rest := []) ⟨hx, hb, hml, hown, hts⟩ hK hP hA hS hZ (c_X12_set l D cI cL ad zz hJ σ48 τ (xs x46.toNatClampNeg) ((xs x46.toNatClampNeg).toInt) rfl I134) cw_RL_30 (jc_55 cI cL ad σ48 τ) rfl ⟨Nat.le_of_ble_eq_true rfl, Nat.le_of_ble_eq_true rfl⟩ rfl rfl rfl hl.1 rfl (Nat.le_of_ble_eq_true rfl) dL_law_341 ⟨Nat.le_of_ble_eq_true rfl, Nat.le_of_ble_eq_true rfl⟩ (fun r137 σ136 τ136 H locs h136 hP hS => ?_)
    obtain ⟨rfl, f138, f139, I140, h136⟩ := h136
    rcases h136 with h142 | h143
    · obtain ⟨q147, k144, k145, k146⟩ := h142
      exact absurd (by omega : False) id
    · obtain ⟨q150, k148, k149⟩ := h143
      have q150 := q150.symm
      subst q150
      refine lv_pop hx hb dL_law_344 rfl ?_
      refine lv_goto (tgt := 1357) hx hb dL_law_345 (by decide) ?_
      obtain ⟨x151, ex151⟩ : ∃ y : Int32, y = x0 + 6 := ⟨_, rfl⟩
      have tx151 : x151.toInt = x0.toInt + 6 := (jadd ex151 rfl jz_6 (by omega) (by omega)).trans (by omega)
      refine lv_iinc (v := x151) (lv' := [(3, .int x151), (2, .ref (ad 55)), (1, .ref (ad 0)), (0, .ref b)]) hx hb dL_law_1357 hl (k := 0) rfl (by rw [ex151]; rfl) (by decide) rfl (fun ls hl => ?_)
      refine lv_goto (tgt := 18) hx hb dL_law_1360 (by decide) ?_
      have I152 : jI2 σ136 := jI2_fr (congrFun (f138 2 (by decide)) 0) (congrFun (f138 2 (by decide)) 1) (congrFun (f138 2 (by decide)) 2) (congrFun (f138 2 (by decide)) 3) (f138 6 (by decide)) I52
      have I153 : jI9 σ136 := jI9_fr ((congrFun (f138 9 (by decide)) 0).trans (congrFun (f50 9 (by decide)) 0)) ((f138 10 (by decide)).trans (f50 10 (by decide))) ((f138 11 (by decide)).trans (f50 11 (by decide))) hI9
      have I154 : jI12 σ136 := jI12_fr ((congrFun (f138 12 (by decide)) 0).trans (congrFun (f50 12 (by decide)) 0)) ((f138 13 (by decide)).trans (f50 13 (by decide))) hI12
      have I155 : jI16 σ136 := jI16_fr ((congrFun (f138 16 (by decide)) 0).trans (congrFun (f50 16 (by decide)) 0)) ((congrFun (f138 16 (by decide)) 1).trans (congrFun (f50 16 (by decide)) 1)) ((congrFun (f138 16 (by decide)) 2).trans (congrFun (f50 16 (by decide)) 2)) ((f138 17 (by decide)).trans (f50 17 (by decide))) hI16
      have I156 : jI18 σ136 := jI18_fr ((congrFun (f138 18 (by decide)) 0).trans (congrFun (f50 18 (by decide)) 0)) ((f138 19 (by decide)).trans (f50 19 (by decide))) hI18
      have I157 : jI22 σ136 := jI22_fr ((congrFun (f138 22 (by decide)) 0).trans (congrFun (f50 22 (by decide)) 0)) ((f138 23 (by decide)).trans (f50 23 (by decide))) hI22
      have I158 : jI31 σ136 := jI31_fr ((congrFun (f138 31 (by decide)) 8).trans (congrFun (f50 31 (by decide)) 8)) ((f138 33 (by decide)).trans (f50 33 (by decide))) ((f138 36 (by decide)).trans (f50 36 (by decide))) hI31
      have I159 : jI38 σ136 := jI38_fr ((congrFun (f138 38 (by decide)) 0).trans (congrFun (f50 38 (by decide)) 0)) ((congrFun (f138 38 (by decide)) 1).trans (congrFun (f50 38 (by decide)) 1)) ((f138 39 (by decide)).trans (f50 39 (by decide))) hI38
      have I160 : jI43 σ136 := jI43_fr ((congrFun (f138 43 (by decide)) 8).trans (congrFun (f50 43 (by decide)) 8)) hI43
      have I161 : jI47 σ136 := jI47_fr ((congrFun (f138 47 (by decide)) 0).trans (congrFun (f50 47 (by decide)) 0)) ((f138 48 (by decide)).trans (f50 48 (by decide))) ((f138 49 (by decide)).trans (f50 49 (by decide))) hI47
      have I162 : jI50 σ136 := jI50_fr ((f138 52 (by decide)).trans (f50 52 (by decide))) hI50
      have I163 : jI101 σ136 := jI101_fr ((f139 4 (by decide)).trans (congrFun (f50 55 (by decide)) 4)) ((f139 5 (by decide)).trans (congrFun (f50 55 (by decide)) 5)) ((f138 56 (by decide)).trans (f50 56 (by decide))) ((f138 57 (by decide)).trans (f50 57 (by decide))) ((f138 58 (by decide)).trans (f50 58 (by decide))) ((f138 59 (by decide)).trans (f50 59 (by decide))) hI101
      have I164 : jI102 σ136 := jI102_fr ((f139 6 (by decide)).trans (congrFun (f50 55 (by decide)) 6)) ((f138 60 (by decide)).trans (f50 60 (by decide))) ((f138 61 (by decide)).trans (f50 61 (by decide))) hI102
      have I165 : jI104 σ136 := jI104_fr ((f139 10 (by decide)).trans (congrFun (f50 55 (by decide)) 10)) ((f139 12 (by decide)).trans (congrFun (f50 55 (by decide)) 12)) ((f139 13 (by decide)).trans (congrFun (f50 55 (by decide)) 13)) ((f138 62 (by decide)).trans (f50 62 (by decide))) ((f138 67 (by decide)).trans (f50 67 (by decide))) hI104
      have I166 : jI105 σ136 := jI105_fr ((f139 15 (by decide)).trans (congrFun (f50 55 (by decide)) 15)) ((f138 65 (by decide)).trans (f50 65 (by decide))) hI105
      have I167 : jI106 σ136 := jI106_fr ((f139 32 (by decide)).trans (congrFun (f50 55 (by decide)) 32)) ((f138 70 (by decide)).trans (f50 70 (by decide))) ((f138 71 (by decide)).trans (f50 71 (by decide))) ((f138 72 (by decide)).trans (f50 72 (by decide))) hI106
      have I168 : jI107 σ136 := jI107_fr ((f139 12 (by decide)).trans (congrFun (f50 55 (by decide)) 12)) ((f139 47 (by decide)).trans (congrFun (f50 55 (by decide)) 47)) ((f138 80 (by decide)).trans (f50 80 (by decide))) hI107
      have I169 : jI109 σ136 := jI109_fr ((f139 50 (by decide)).trans (congrFun (f50 55 (by decide)) 50)) hI109
      have I170 : jI110 σ136 := jI110_fr ((f138 86 (by decide)).trans (f50 86 (by decide))) ((f138 87 (by decide)).trans (f50 87 (by decide))) hI110
      have I171 : jI111 σ136 := jI111_fr ((f138 79 (by decide)).trans (f50 79 (by decide))) hI111
      have I172 : jI119 σ136 := jI119_fr ((f138 68 (by decide)).trans (f50 68 (by decide))) hI119
      have p173 : jKept σ136 := jKept.fr ((f138 75 (by decide)).trans (f50 75 (by decide))) ((f138 76 (by decide)).trans (f50 76 (by decide))) ((f138 77 (by decide)).trans (f50 77 (by decide))) hs_jKept
      have p174 : jBook σ136 := jBook.fr ((f139 47 (by decide)).trans (congrFun (f50 55 (by decide)) 47)) ((f139 10 (by decide)).trans (congrFun (f50 55 (by decide)) 10)) ((f138 81 (by decide)).trans (f50 81 (by decide))) hs_jBook
      have z175 : (σ136 2 0).toInt = (σ 2 0).toInt := (congrArg Int32.toInt (show σ136 2 0 = (σ 2 0) from ((congrFun (f138 2 (by decide)) 0).trans (f51 0 (by decide)))))
      have z176 : (σ136 55 6).toInt = (σ 55 6).toInt := (congrArg Int32.toInt (show σ136 55 6 = (σ 55 6) from ((f139 6 (by decide)).trans (congrFun (f50 55 (by decide)) 6))))
      have z177 : (σ136 2 2).toInt = (σ 2 2).toInt := (congrArg Int32.toInt (show σ136 2 2 = (σ 2 2) from ((congrFun (f138 2 (by decide)) 2).trans (f51 2 (by decide)))))
      have z178 : (σ136 55 5).toInt = (σ 55 5).toInt := (congrArg Int32.toInt (show σ136 55 5 = (σ 55 5) from ((f139 5 (by decide)).trans (congrFun (f50 55 (by decide)) 5))))
      have z179 : (σ136 2 3).toInt = (σ 2 3).toInt := (congrArg Int32.toInt (show σ136 2 3 = (σ 2 3) from ((congrFun (f138 2 (by decide)) 3).trans (f51 3 (by decide)))))
      have z180 : (σ136 55 4).toInt = (σ 55 4).toInt := (congrArg Int32.toInt (show σ136 55 4 = (σ 55 4) from ((f139 4 (by decide)).trans (congrFun (f50 55 (by decide)) 4))))
      have z181 : (σ136 9 0).toInt = (σ 9 0).toInt := (congrArg Int32.toInt (show σ136 9 0 = (σ 9 0) from ((congrFun (f138 9 (by decide)) 0).trans (congrFun (f50 9 (by decide)) 0))))
      have z182 : (σ136 55 15).toInt = (σ 55 15).toInt := (congrArg Int32.toInt (show σ136 55 15 = (σ 55 15) from ((f139 15 (by decide)).trans (congrFun (f50 55 (by decide)) 15))))
      have z183 : (σ136 16 0).toInt = (σ 16 0).toInt := (congrArg Int32.toInt (show σ136 16 0 = (σ 16 0) from ((congrFun (f138 16 (by decide)) 0).trans (congrFun (f50 16 (by decide)) 0))))
      have z184 : (σ136 55 10).toInt = (σ 55 10).toInt := (congrArg Int32.toInt (show σ136 55 10 = (σ 55 10) from ((f139 10 (by decide)).trans (congrFun (f50 55 (by decide)) 10))))
      have z185 : (σ136 16 1).toInt = (σ 16 1).toInt := (congrArg Int32.toInt (show σ136 16 1 = (σ 16 1) from ((congrFun (f138 16 (by decide)) 1).trans (congrFun (f50 16 (by decide)) 1))))
      have z186 : (σ136 55 12).toInt = (σ 55 12).toInt := (congrArg Int32.toInt (show σ136 55 12 = (σ 55 12) from ((f139 12 (by decide)).trans (congrFun (f50 55 (by decide)) 12))))
      have z187 : (σ136 16 2).toInt = (σ 16 2).toInt := (congrArg Int32.toInt (show σ136 16 2 = (σ 16 2) from ((congrFun (f138 16 (by decide)) 2).trans (congrFun (f50 16 (by decide)) 2))))
      have z188 : (σ136 55 13).toInt = (σ 55 13).toInt := (congrArg Int32.toInt (show σ136 55 13 = (σ 55 13) from ((f139 13 (by decide)).trans (congrFun (f50 55 (by decide)) 13))))
      have z189 : (σ136 38 0).toInt = (σ 38 0).toInt := (congrArg Int32.toInt (show σ136 38 0 = (σ 38 0) from ((congrFun (f138 38 (by decide)) 0).trans (congrFun (f50 38 (by decide)) 0))))
      have z190 : (σ136 55 32).toInt = (σ 55 32).toInt := (congrArg Int32.toInt (show σ136 55 32 = (σ 55 32) from ((f139 32 (by decide)).trans (congrFun (f50 55 (by decide)) 32))))
      have z191 : (σ136 47 0).toInt = (σ 47 0).toInt := (congrArg Int32.toInt (show σ136 47 0 = (σ 47 0) from ((congrFun (f138 47 (by decide)) 0).trans (congrFun (f50 47 (by decide)) 0))))
      have z192 : (σ136 55 47).toInt = (σ 55 47).toInt := (congrArg Int32.toInt (show σ136 55 47 = (σ 55 47) from ((f139 47 (by decide)).trans (congrFun (f50 55 (by decide)) 47))))
      have z193 : (σ136 55 30).toInt = (σ 55 30).toInt := (congrArg Int32.toInt (show σ136 55 30 = (σ 55 30) from ((f139 30 (by decide)).trans (congrFun (f50 55 (by decide)) 30))))
      have z194 : (σ136 55 31).toInt = (σ 55 31).toInt := (congrArg Int32.toInt (show σ136 55 31 = (σ 55 31) from ((f139 31 (by decide)).trans (congrFun (f50 55 (by decide)) 31))))
      exact ih x151 σ136 τ _ _ ls (by have h9 := tx151; omega) ⟨I152, I153, I154, I155, I156, I157, I158, I159, I160, I161, I162, I163, I164, I140, I165, I166, I167, I168, I169, I170, I171, I172, p173, p174, (by omega), (by omega), (by omega), (by omega), (by omega), (by omega), (by omega), (by omega), (by omega), (by omega), (by omega), (show jNumP (σ136 3) (σ136 56) (σ136 6) (σ136 57) (σ136 7) (σ136 58) (σ136 8) (σ136 59) (σ136 55 6).toInt (σ136 55 4).toInt by rw [show σ136 3 = σ 3 from ((f138 3 (by decide)).trans (f50 3 (by decide))), show σ136 56 = σ 56 from ((f138 56 (by decide)).trans (f50 56 (by decide))), show σ136 6 = σ 6 from ((f138 6 (by decide)).trans (f50 6 (by decide))), show σ136 57 = σ 57 from ((f138 57 (by decide)).trans (f50 57 (by decide))), show σ136 7 = σ 7 from ((f138 7 (by decide)).trans (f50 7 (by decide))), show σ136 58 = σ 58 from ((f138 58 (by decide)).trans (f50 58 (by decide))), show σ136 8 = σ 8 from ((f138 8 (by decide)).trans (f50 8 (by decide))), show σ136 59 = σ 59 from ((f138 59 (by decide)).trans (f50 59 (by decide))), show (σ136 55 6).toInt = (σ 55 6).toInt from by omega, show (σ136 55 4).toInt = (σ 55 4).toInt from by omega]; exact hr0), (show jOvP (σ136 56) (σ136 57) (σ136 58) (σ136 59) (σ136 55 4).toInt by rw [show σ136 56 = σ 56 from ((f138 56 (by decide)).trans (f50 56 (by decide))), show σ136 57 = σ 57 from ((f138 57 (by decide)).trans (f50 57 (by decide))), show σ136 58 = σ 58 from ((f138 58 (by decide)).trans (f50 58 (by decide))), show σ136 59 = σ 59 from ((f138 59 (by decide)).trans (f50 59 (by decide))), show (σ136 55 4).toInt = (σ 55 4).toInt from by omega]; exact hr1), (show jTp (σ136 10) (σ136 63) (σ136 55 15).toInt by rw [show σ136 10 = σ 10 from ((f138 10 (by decide)).trans (f50 10 (by decide))), show σ136 63 = σ 63 from ((f138 63 (by decide)).trans (f50 63 (by decide)))]; exact hr2.le (by omega)), (show jSo (σ136 17) (σ136 62) (σ136 16 0).toInt by rw [show σ136 17 = σ 17 from ((f138 17 (by decide)).trans (f50 17 (by decide))), show σ136 62 = σ 62 from ((f138 62 (by decide)).trans (f50 62 (by decide))), show (σ136 16 0).toInt = (σ 16 0).toInt from by omega]; exact hr3), (show jShP (σ136 51) (σ136 52) (σ136 53) (σ136 86) (σ136 87) (σ136 55 32).toInt by rw [show σ136 51 = σ 51 from ((f138 51 (by decide)).trans (f50 51 (by decide))), show σ136 52 = σ 52 from ((f138 52 (by decide)).trans (f50 52 (by decide))), show σ136 53 = σ 53 from ((f138 53 (by decide)).trans (f50 53 (by decide))), show σ136 86 = σ 86 from ((f138 86 (by decide)).trans (f50 86 (by decide))), show σ136 87 = σ 87 from ((f138 87 (by decide)).trans (f50 87 (by decide)))]; exact (hr4.up (by omega) (by omega))), (show jEl (σ136 51) (σ136 52) (τ 54) (τ 88) by rw [show σ136 51 = σ 51 from ((f138 51 (by decide)).trans (f50 51 (by decide))), show σ136 52 = σ 52 from ((f138 52 (by decide)).trans (f50 52 (by decide)))]; exact hr5), (show jByP (σ136 51) (σ136 52) (τ 54) by rw [show σ136 51 = σ 51 from ((f138 51 (by decide)).trans (f50 51 (by decide))), show σ136 52 = σ 52 from ((f138 52 (by decide)).trans (f50 52 (by decide)))]; exact hr6), (show jBk (σ136 48) (σ136 80) (σ136 49) (σ136 81) (σ136 55 47).toInt by rw [show σ136 48 = σ 48 from ((f138 48 (by decide)).trans (f50 48 (by decide))), show σ136 49 = σ 49 from ((f138 49 (by decide)).trans (f50 49 (by decide))), show σ136 80 = σ 80 from ((f138 80 (by decide)).trans (f50 80 (by decide))), show σ136 81 = σ 81 from ((f138 81 (by decide)).trans (f50 81 (by decide))), show (σ136 55 47).toInt = (σ 55 47).toInt from by omega]; exact hr7)⟩ hP hS (lv_sub hl [0, 1, 2, 3] rfl)
set_option maxHeartbeats 4000000 in
set_option maxRecDepth 100000 in
theorem law_case_4 {p : Program} {e : Env} {s : State} {m : MethodId} {below : List Frame} {meth : Method} {c : Code} (l : Launch) {b L : Nat} {xs : Nat → Int32} {D : va_G} {cI cL : ClassId} {ad zz : Nat → Nat} (C0 : lw_At p s m meth c b L xs) (hJ : jD ad) (hA : ∀ q, jA ad q → s.heap.size ≤ q) (hK : jK D cI cL s) (hZ : jZ zz (fun q : Nat => s.heap.size ≤ q) s s.heap) {x0 : Int32} (hx0 : 0 ≤ x0.toInt) (hxL : x0.toInt + 6 ≤ (L : Int)) (hL : L ≤ 384) {σ : Nat → Nat → Int32} {τ : Nat → Nat → Int64} {H : Heap} {locs : List Loc} (hS : va_S (fun q : Nat => s.heap.size ≤ q) s.heap H locs) {ls : Array Slot} (hAll : jAll σ τ) (hP : jH D cI cL ad σ τ H) (hl : lv_has ls 4 [(3, .int x0), (2, .ref (ad 55)), (1, .ref (ad 0)), (0, .ref b)]) (ih : ∀ (x1 : Int32) (σ : Nat → Nat → Int32) (τ : Nat → Nat → Int64) (H : Heap) (locs : List Loc) (ls : Array Slot), x1.toInt = x0.toInt + 6 → jAll σ τ → jH D cI cL ad σ τ H → va_S (fun q : Nat => s.heap.size ≤ q) s.heap H locs → lv_has ls 4 [(3, .int x1), (2, .ref (ad 55)), (1, .ref (ad 0)), (0, .ref b)] → W p l e room_1 s m #[Value.ref b] below meth c H locs 90 348600 (lw_Z below #[Value.ref b] s) (F0 m 18 ls [])) : W p l e room_1 s m #[Value.ref b] below meth c H locs 90 348600 (lw_Z below #[Value.ref b] s) (F0 m 348 ls []) := by
  obtain ⟨hx, hb, hr, hml, hown, hts0, hX, hbl, hlocks, hgv⟩ := C0
  have hts : ∀ w ∈ wsL_law, w.before #[Value.ref b] s = true := fun w h => hts0 w (wsL_law_in w h)
  have hbA : ¬ (fun q : Nat => s.heap.size ≤ q) b := Nat.not_le.mpr hbl
  have hown : s.vm.findClass RL = some m.cls := hown
  obtain ⟨hI2, hI9, hI12, hI16, hI18, hI22, hI31, hI38, hI43, hI47, hI50, hI101, hI102, hI103, hI104, hI105, hI106, hI107, hI109, hI110, hI111, hI119, hs_jKept, hs_jBook, ht0, ht1, ht2, ht3, ht4, ht5, ht6, ht7, ht8, ht9, ht10, hr0, hr1, hr2, hr3, hr4, hr5, hr6, hr7⟩ := hAll
  have hL9 : (L : Int) ≤ 384 := by omega
  obtain ⟨i1, i2, i3, i4, i5, w6⟩ : (0 ≤ (σ 2 0).toInt ∧ (σ 2 0).toInt ≤ 4) ∧ (0 ≤ (σ 2 1).toInt ∧ (σ 2 1).toInt ≤ 3) ∧ (0 ≤ (σ 2 2).toInt) ∧ (0 ≤ (σ 2 3).toInt) ∧ ((σ 2 2).toInt + (σ 2 3).toInt ≤ 40) ∧ (∀ k : Nat, k < 40 → 0 ≤ (σ 6 k).toInt ∧ (σ 6 k).toInt ≤ 67) := id hI2
  obtain ⟨i7, w8, w9⟩ : (0 ≤ (σ 9 0).toInt ∧ (σ 9 0).toInt ≤ 80) ∧ (∀ k : Nat, k < 80 → 0 ≤ (σ 10 k).toInt ∧ (σ 10 k).toInt ≤ 255) ∧ (∀ k : Nat, k < 8 → 0 ≤ (σ 11 k).toInt ∧ (σ 11 k).toInt ≤ 3) := id hI9
  obtain ⟨i10, i11, i12, w13⟩ : (1 ≤ (σ 16 0).toInt ∧ (σ 16 0).toInt ≤ 8) ∧ (1 ≤ (σ 16 1).toInt ∧ (σ 16 1).toInt ≤ 12) ∧ (0 ≤ (σ 16 2).toInt ∧ (σ 16 2).toInt ≤ 999) ∧ (∀ k : Nat, k < 8 → 0 ≤ (σ 17 k).toInt ∧ (σ 17 k).toInt ≤ 3) := id hI16
  obtain ⟨i14, i15, w16⟩ : (0 ≤ (σ 38 0).toInt ∧ (σ 38 0).toInt ≤ 20) ∧ (0 ≤ (σ 38 1).toInt ∧ (σ 38 1).toInt ≤ 1000) ∧ (∀ k : Nat, k < 20 → 0 ≤ (σ 39 k).toInt ∧ (σ 39 k).toInt ≤ 6) := id hI38
  obtain ⟨i17, w18, w19⟩ : (0 ≤ (σ 47 0).toInt ∧ (σ 47 0).toInt ≤ 12) ∧ (∀ k : Nat, k < 12 → 0 ≤ (σ 48 k).toInt ∧ (σ 48 k).toInt ≤ 3) ∧ (∀ k : Nat, k < 12 → 0 ≤ (σ 49 k).toInt ∧ (σ 49 k).toInt ≤ 1) := id hI47
  have w20 : ∀ k : Nat, k < 6 → 0 ≤ (σ 52 k).toInt ∧ (σ 52 k).toInt ≤ 60 := hI50
  obtain ⟨i21, i22, i23, w24, w25, w26, w27⟩ : (0 ≤ (σ 55 5).toInt) ∧ ((σ 55 5).toInt ≤ (σ 55 4).toInt) ∧ ((σ 55 4).toInt ≤ 40) ∧ (∀ k : Nat, k < 68 → (-200) ≤ (σ 56 k).toInt ∧ (σ 56 k).toInt ≤ 500) ∧ (∀ k : Nat, k < 40 → 0 ≤ (σ 57 k).toInt ∧ (σ 57 k).toInt ≤ 67) ∧ (∀ k : Nat, k < 40 → (-200) ≤ (σ 58 k).toInt ∧ (σ 58 k).toInt ≤ 500) ∧ (∀ k : Nat, k < 40 → (-200) ≤ (σ 59 k).toInt ∧ (σ 59 k).toInt ≤ 500) := id hI101
  obtain ⟨i28, w29, w30⟩ : (0 ≤ (σ 55 6).toInt ∧ (σ 55 6).toInt ≤ 4) ∧ (∀ k : Nat, k < 4 → 0 ≤ (σ 60 k).toInt ∧ (σ 60 k).toInt ≤ 50) ∧ (∀ k : Nat, k < 4 → 0 ≤ (σ 61 k).toInt ∧ (σ 61 k).toInt ≤ 20) := id hI102
  obtain ⟨i31, i32, i33, w34, w35⟩ : (1 ≤ (σ 55 10).toInt ∧ (σ 55 10).toInt ≤ 8) ∧ (1 ≤ (σ 55 12).toInt ∧ (σ 55 12).toInt ≤ 12) ∧ (0 ≤ (σ 55 13).toInt ∧ (σ 55 13).toInt ≤ 999) ∧ (∀ k : Nat, k < 8 → 0 ≤ (σ 62 k).toInt ∧ (σ 62 k).toInt ≤ 3) ∧ (∀ k : Nat, k < 8 → 0 ≤ (σ 67 k).toInt ∧ (σ 67 k).toInt ≤ 3) := id hI104
  obtain ⟨i36, w37⟩ : (0 ≤ (σ 55 15).toInt ∧ (σ 55 15).toInt ≤ 80) ∧ (∀ k : Nat, k < 2 → (-1) ≤ (σ 65 k).toInt ∧ (σ 65 k).toInt ≤ 80) := id hI105
  obtain ⟨i38, w39, w40, w41⟩ : (0 ≤ (σ 55 32).toInt ∧ (σ 55 32).toInt ≤ 20) ∧ (∀ k : Nat, k < 20 → 0 ≤ (σ 70 k).toInt ∧ (σ 70 k).toInt ≤ 6) ∧ (∀ k : Nat, k < 20 → 0 ≤ (σ 71 k).toInt ∧ (σ 71 k).toInt ≤ 8) ∧ (∀ k : Nat, k < 160 → 0 ≤ (σ 72 k).toInt ∧ (σ 72 k).toInt ≤ 3) := id hI106
  obtain ⟨i42, i43, w44⟩ : (0 ≤ (σ 55 47).toInt ∧ (σ 55 47).toInt ≤ 12) ∧ ((σ 55 47).toInt ≤ (σ 55 12).toInt) ∧ (∀ k : Nat, k < 12 → 0 ≤ (σ 80 k).toInt ∧ (σ 80 k).toInt ≤ 3) := id hI107
  refine lv_aload_n hx hb dL_law_348 rfl (lv_at hl 2 rfl) ?_
  refine lv_aload_n hx hb dL_law_349 rfl (lv_at hl 3 rfl) ?_
  refine lv_iload_n hx hb dL_law_350 rfl (lv_at hl 0 rfl) ?_
  refine lv_iconst (v := 1) hx hb dL_law_351 (by decide) ?_
  have g45 := jrg (rfl : x0.toInt = x0.toInt)
  refine lv_iadd hx hb dL_law_352 ?_
  refine lv_topi (fun x46 ex46 => ?_)
  have tx46 : x46.toInt = x0.toInt + 1 := (jadd ex46 rfl jz_1 (by omega) (by omega)).trans (by omega)
  refine va_sld hx hb hX hbl hbA hS (jin tx46 (by omega) (by omega)) dL_law_353 ?_
  have g47 := jrg (rfl : (xs x46.toNatClampNeg).toInt = (xs x46.toNatClampNeg).toInt)
  refine lv_aload_n hx hb dL_law_354 rfl (lv_at hl 3 rfl) ?_
  refine lv_iload_n hx hb dL_law_355 rfl (lv_at hl 0 rfl) ?_
  refine lv_iconst (v := 2) hx hb dL_law_356 (by decide) ?_
  refine lv_iadd hx hb dL_law_357 ?_
  refine lv_topi (fun x48 ex48 => ?_)
  have tx48 : x48.toInt = x0.toInt + 2 := (jadd ex48 rfl jz_2 (by omega) (by omega)).trans (by omega)
  refine va_sld hx hb hX hbl hbA hS (jin tx48 (by omega) (by omega)) dL_law_358 ?_
  have g49 := jrg (rfl : (xs x48.toNatClampNeg).toInt = (xs x48.toNatClampNeg).toInt)
  refine jcallV (As := [.int (xs x46.toNatClampNeg), .int (xs x48.toNatClampNeg)]) (rest := []) ⟨hx, hb, hml, hown, hts⟩ hK hP hA hS hZ (c_X11_feed l D cI cL ad zz hJ σ τ (xs x46.toNatClampNeg) ((xs x46.toNatClampNeg).toInt) rfl (xs x48.toNatClampNeg) ((xs x48.toNatClampNeg).toInt) rfl hI9) cw_RL_31 (jc_0 cI cL ad σ τ) rfl ⟨Nat.le_of_ble_eq_true rfl, Nat.le_of_ble_eq_true rfl⟩ rfl rfl rfl hl.1 rfl (Nat.le_of_ble_eq_true rfl) dL_law_359 ⟨Nat.le_of_ble_eq_true rfl, Nat.le_of_ble_eq_true rfl⟩ (fun r51 σ50 τ50 H locs h50 hP hS => ?_)
  obtain ⟨rfl, f52, f53, I54, h50⟩ := h50
  obtain ⟨i56, w57, w58⟩ : (0 ≤ (σ50 9 0).toInt ∧ (σ50 9 0).toInt ≤ 80) ∧ (∀ k : Nat, k < 80 → 0 ≤ (σ50 10 k).toInt ∧ (σ50 10 k).toInt ≤ 255) ∧ (∀ k : Nat, k < 8 → 0 ≤ (σ50 11 k).toInt ∧ (σ50 11 k).toInt ≤ 3) := id I54
  rcases h50 with h59 | h60 | h61
  · obtain ⟨q65, k62, k63, k64⟩ := h59
    have q65 := q65.symm
    subst q65
    refine lv_pop hx hb dL_law_362 rfl ?_
    refine lv_aload_n hx hb dL_law_363 rfl (lv_at hl 1 rfl) ?_
    refine lv_aload_n hx hb dL_law_364 rfl (lv_at hl 3 rfl) ?_
    refine lv_iload_n hx hb dL_law_365 rfl (lv_at hl 0 rfl) ?_
    refine lv_iconst (v := 1) hx hb dL_law_366 (by decide) ?_
    refine lv_iadd hx hb dL_law_367 ?_
    refine jtopr ex46.symm ?_
    refine va_sld hx hb hX hbl hbA hS (jin tx46 (by omega) (by omega)) dL_law_368 ?_
    refine lv_aload_n hx hb dL_law_369 rfl (lv_at hl 3 rfl) ?_
    refine lv_iload_n hx hb dL_law_370 rfl (lv_at hl 0 rfl) ?_
    refine lv_iconst (v := 2) hx hb dL_law_371 (by decide) ?_
    refine lv_iadd hx hb dL_law_372 ?_
    refine jtopr ex48.symm ?_
    refine va_sld hx hb hX hbl hbA hS (jin tx48 (by omega) (by omega)) dL_law_373 ?_
    have I66 : jI105 σ50 := jI105_fr (congrFun (f52 55 (by decide)) 15) (f52 65 (by decide)) hI105
    have z67 : (σ50 55 15).toInt = (σ 55 15).toInt := (congrArg Int32.toInt (show σ50 55 15 = (σ 55 15) from (congrFun (f52 55 (by decide)) 15)))
    refine jcallV (As := [.int (xs x46.toNatClampNeg), .int (xs x48.toNatClampNeg)]) (rest := []) ⟨hx, hb, hml, hown, hts⟩ hK hP hA hS hZ (c_X12_feed l D cI cL ad zz hJ σ50 τ (xs x46.toNatClampNeg) ((xs x46.toNatClampNeg).toInt) rfl (xs x48.toNatClampNeg) ((xs x48.toNatClampNeg).toInt) rfl I66) cw_RL_35 (jc_55 cI cL ad σ50 τ) rfl ⟨Nat.le_of_ble_eq_true rfl, Nat.le_of_ble_eq_true rfl⟩ rfl rfl rfl hl.1 rfl (Nat.le_of_ble_eq_true rfl) dL_law_374 ⟨Nat.le_of_ble_eq_true rfl, Nat.le_of_ble_eq_true rfl⟩ (fun r69 σ68 τ68 H locs h68 hP hS => ?_)
    obtain ⟨rfl, f70, f71, I72, h68⟩ := h68
    obtain ⟨i74, w75⟩ : (0 ≤ (σ68 55 15).toInt ∧ (σ68 55 15).toInt ≤ 80) ∧ (∀ k : Nat, k < 2 → (-1) ≤ (σ68 65 k).toInt ∧ (σ68 65 k).toInt ≤ 80) := id I72
    rcases h68 with h76 | h77 | h78
    · obtain ⟨q82, k79, k80, k81⟩ := h76
      have q82 := q82.symm
      subst q82
      refine lv_pop hx hb dL_law_377 rfl ?_
      refine lv_goto (tgt := 1357) hx hb dL_law_378 (by decide) ?_
      obtain ⟨x83, ex83⟩ : ∃ y : Int32, y = x0 + 6 := ⟨_, rfl⟩
      have tx83 : x83.toInt = x0.toInt + 6 := (jadd ex83 rfl jz_6 (by omega) (by omega)).trans (by omega)
      refine lv_iinc (v := x83) (lv' := [(3, .int x83), (2, .ref (ad 55)), (1, .ref (ad 0)), (0, .ref b)]) hx hb dL_law_1357 hl (k := 0) rfl (by rw [ex83]; rfl) (by decide) rfl (fun ls hl => ?_)
      refine lv_goto (tgt := 18) hx hb dL_law_1360 (by decide) ?_
      have I84 : jI2 σ68 := jI2_fr ((congrFun (f70 2 (by decide)) 0).trans (congrFun (f52 2 (by decide)) 0)) ((congrFun (f70 2 (by decide)) 1).trans (congrFun (f52 2 (by decide)) 1)) ((congrFun (f70 2 (by decide)) 2).trans (congrFun (f52 2 (by decide)) 2)) ((congrFun (f70 2 (by decide)) 3).trans (congrFun (f52 2 (by decide)) 3)) ((f70 6 (by decide)).trans (f52 6 (by decide))) hI2
      have I85 : jI9 σ68 := jI9_fr (congrFun (f70 9 (by decide)) 0) (f70 10 (by decide)) (f70 11 (by decide)) I54
      have I86 : jI12 σ68 := jI12_fr ((congrFun (f70 12 (by decide)) 0).trans (congrFun (f52 12 (by decide)) 0)) ((f70 13 (by decide)).trans (f52 13 (by decide))) hI12
      have I87 : jI16 σ68 := jI16_fr ((congrFun (f70 16 (by decide)) 0).trans (congrFun (f52 16 (by decide)) 0)) ((congrFun (f70 16 (by decide)) 1).trans (congrFun (f52 16 (by decide)) 1)) ((congrFun (f70 16 (by decide)) 2).trans (congrFun (f52 16 (by decide)) 2)) ((f70 17 (by decide)).trans (f52 17 (by decide))) hI16
      have I88 : jI18 σ68 := jI18_fr ((congrFun (f70 18 (by decide)) 0).trans (congrFun (f52 18 (by decide)) 0)) ((f70 19 (by decide)).trans (f52 19 (by decide))) hI18
      have I89 : jI22 σ68 := jI22_fr ((congrFun (f70 22 (by decide)) 0).trans (congrFun (f52 22 (by decide)) 0)) ((f70 23 (by decide)).trans (f52 23 (by decide))) hI22
      have I90 : jI31 σ68 := jI31_fr ((congrFun (f70 31 (by decide)) 8).trans (congrFun (f52 31 (by decide)) 8)) ((f70 33 (by decide)).trans (f52 33 (by decide))) ((f70 36 (by decide)).trans (f52 36 (by decide))) hI31
      have I91 : jI38 σ68 := jI38_fr ((congrFun (f70 38 (by decide)) 0).trans (congrFun (f52 38 (by decide)) 0)) ((congrFun (f70 38 (by decide)) 1).trans (congrFun (f52 38 (by decide)) 1)) ((f70 39 (by decide)).trans (f52 39 (by decide))) hI38
      have I92 : jI43 σ68 := jI43_fr ((congrFun (f70 43 (by decide)) 8).trans (congrFun (f52 43 (by decide)) 8)) hI43
      have I93 : jI47 σ68 := jI47_fr ((congrFun (f70 47 (by decide)) 0).trans (congrFun (f52 47 (by decide)) 0)) ((f70 48 (by decide)).trans (f52 48 (by decide))) ((f70 49 (by decide)).trans (f52 49 (by decide))) hI47
      have I94 : jI50 σ68 := jI50_fr ((f70 52 (by decide)).trans (f52 52 (by decide))) hI50
      have I95 : jI101 σ68 := jI101_fr ((f71 4 (by decide)).trans (congrFun (f52 55 (by decide)) 4)) ((f71 5 (by decide)).trans (congrFun (f52 55 (by decide)) 5)) ((f70 56 (by decide)).trans (f52 56 (by decide))) ((f70 57 (by decide)).trans (f52 57 (by decide))) ((f70 58 (by decide)).trans (f52 58 (by decide))) ((f70 59 (by decide)).trans (f52 59 (by decide))) hI101
      have I96 : jI102 σ68 := jI102_fr ((f71 6 (by decide)).trans (congrFun (f52 55 (by decide)) 6)) ((f70 60 (by decide)).trans (f52 60 (by decide))) ((f70 61 (by decide)).trans (f52 61 (by decide))) hI102
      have I97 : jI103 σ68 := jI103_fr ((f71 9 (by decide)).trans (congrFun (f52 55 (by decide)) 9)) hI103
      have I98 : jI104 σ68 := jI104_fr ((f71 10 (by decide)).trans (congrFun (f52 55 (by decide)) 10)) ((f71 12 (by decide)).trans (congrFun (f52 55 (by decide)) 12)) ((f71 13 (by decide)).trans (congrFun (f52 55 (by decide)) 13)) ((f70 62 (by decide)).trans (f52 62 (by decide))) ((f70 67 (by decide)).trans (f52 67 (by decide))) hI104
      have I99 : jI106 σ68 := jI106_fr ((f71 32 (by decide)).trans (congrFun (f52 55 (by decide)) 32)) ((f70 70 (by decide)).trans (f52 70 (by decide))) ((f70 71 (by decide)).trans (f52 71 (by decide))) ((f70 72 (by decide)).trans (f52 72 (by decide))) hI106
      have I100 : jI107 σ68 := jI107_fr ((f71 12 (by decide)).trans (congrFun (f52 55 (by decide)) 12)) ((f71 47 (by decide)).trans (congrFun (f52 55 (by decide)) 47)) ((f70 80 (by decide)).trans (f52 80 (by decide))) hI107
      have I101 : jI109 σ68 := jI109_fr ((f71 50 (by decide)).trans (congrFun (f52 55 (by decide)) 50)) hI109
      have I102 : jI110 σ68 := jI110_fr ((f70 86 (by decide)).trans (f52 86 (by decide))) ((f70 87 (by decide)).trans (f52 87 (by decide))) hI110
      have I103 : jI111 σ68 := jI111_fr ((f70 79 (by decide)).trans (f52 79 (by decide))) hI111
      have I104 : jI119 σ68 := jI119_fr ((f70 68 (by decide)).trans (f52 68 (by decide))) hI119
      have p105 : jKept σ68 := jKept.fr ((f70 75 (by decide)).trans (f52 75 (by decide))) ((f70 76 (by decide)).trans (f52 76 (by decide))) ((f70 77 (by decide)).trans (f52 77 (by decide))) hs_jKept
      have p106 : jBook σ68 := jBook.fr ((f71 47 (by decide)).trans (congrFun (f52 55 (by decide)) 47)) ((f71 10 (by decide)).trans (congrFun (f52 55 (by decide)) 10)) ((f70 81 (by decide)).trans (f52 81 (by decide))) hs_jBook
      have z107 : (σ68 2 0).toInt = (σ 2 0).toInt := (congrArg Int32.toInt (show σ68 2 0 = (σ 2 0) from ((congrFun (f70 2 (by decide)) 0).trans (congrFun (f52 2 (by decide)) 0))))
      have z108 : (σ68 55 6).toInt = (σ 55 6).toInt := (congrArg Int32.toInt (show σ68 55 6 = (σ 55 6) from ((f71 6 (by decide)).trans (congrFun (f52 55 (by decide)) 6))))
      have z109 : (σ68 2 2).toInt = (σ 2 2).toInt := (congrArg Int32.toInt (show σ68 2 2 = (σ 2 2) from ((congrFun (f70 2 (by decide)) 2).trans (congrFun (f52 2 (by decide)) 2))))
      have z110 : (σ68 55 5).toInt = (σ 55 5).toInt := (congrArg Int32.toInt (show σ68 55 5 = (σ 55 5) from ((f71 5 (by decide)).trans (congrFun (f52 55 (by decide)) 5))))
      have z111 : (σ68 2 3).toInt = (σ 2 3).toInt := (congrArg Int32.toInt (show σ68 2 3 = (σ 2 3) from ((congrFun (f70 2 (by decide)) 3).trans (congrFun (f52 2 (by decide)) 3))))
      have z112 : (σ68 55 4).toInt = (σ 55 4).toInt := (congrArg Int32.toInt (show σ68 55 4 = (σ 55 4) from ((f71 4 (by decide)).trans (congrFun (f52 55 (by decide)) 4))))
      have z113 : (σ68 9 0).toInt = (σ50 9 0).toInt := (congrArg Int32.toInt (show σ68 9 0 = (σ50 9 0) from (congrFun (f70 9 (by decide)) 0)))
      have z114 : (σ68 16 0).toInt = (σ 16 0).toInt := (congrArg Int32.toInt (show σ68 16 0 = (σ 16 0) from ((congrFun (f70 16 (by decide)) 0).trans (congrFun (f52 16 (by decide)) 0))))
      have z115 : (σ68 55 10).toInt = (σ 55 10).toInt := (congrArg Int32.toInt (show σ68 55 10 = (σ 55 10) from ((f71 10 (by decide)).trans (congrFun (f52 55 (by decide)) 10))))
      have z116 : (σ68 16 1).toInt = (σ 16 1).toInt := (congrArg Int32.toInt (show σ68 16 1 = (σ 16 1) from ((congrFun (f70 16 (by decide)) 1).trans (congrFun (f52 16 (by decide)) 1))))
      have z117 : (σ68 55 12).toInt = (σ 55 12).toInt := (congrArg Int32.toInt (show σ68 55 12 = (σ 55 12) from ((f71 12 (by decide)).trans (congrFun (f52 55 (by decide)) 12))))
      have z118 : (σ68 16 2).toInt = (σ 16 2).toInt := (congrArg Int32.toInt (show σ68 16 2 = (σ 16 2) from ((congrFun (f70 16 (by decide)) 2).trans (congrFun (f52 16 (by decide)) 2))))
      have z119 : (σ68 55 13).toInt = (σ 55 13).toInt := (congrArg Int32.toInt (show σ68 55 13 = (σ 55 13) from ((f71 13 (by decide)).trans (congrFun (f52 55 (by decide)) 13))))
      have z120 : (σ68 38 0).toInt = (σ 38 0).toInt := (congrArg Int32.toInt (show σ68 38 0 = (σ 38 0) from ((congrFun (f70 38 (by decide)) 0).trans (congrFun (f52 38 (by decide)) 0))))
      have z121 : (σ68 55 32).toInt = (σ 55 32).toInt := (congrArg Int32.toInt (show σ68 55 32 = (σ 55 32) from ((f71 32 (by decide)).trans (congrFun (f52 55 (by decide)) 32))))
      have z122 : (σ68 47 0).toInt = (σ 47 0).toInt := (congrArg Int32.toInt (show σ68 47 0 = (σ 47 0) from ((congrFun (f70 47 (by decide)) 0).trans (congrFun (f52 47 (by decide)) 0))))
      have z123 : (σ68 55 47).toInt = (σ 55 47).toInt := (congrArg Int32.toInt (show σ68 55 47 = (σ 55 47) from ((f71 47 (by decide)).trans (congrFun (f52 55 (by decide)) 47))))
      have z124 : (σ68 55 30).toInt = (σ 55 30).toInt := (congrArg Int32.toInt (show σ68 55 30 = (σ 55 30) from ((f71 30 (by decide)).trans (congrFun (f52 55 (by decide)) 30))))
      have z125 : (σ68 55 31).toInt = (σ 55 31).toInt := (congrArg Int32.toInt (show σ68 55 31 = (σ 55 31) from ((f71 31 (by decide)).trans (congrFun (f52 55 (by decide)) 31))))
      exact ih x83 σ68 τ _ _ ls (by have h9 := tx83; omega) ⟨I84, I85, I86, I87, I88, I89, I90, I91, I92, I93, I94, I95, I96, I97, I98, I72, I99, I100, I101, I102, I103, I104, p105, p106, (by omega), (by omega), (by omega), (by omega), (by omega), (by omega), (by omega), (by omega), (by omega), (by omega), (by omega), (show jNumP (σ68 3) (σ68 56) (σ68 6) (σ68 57) (σ68 7) (σ68 58) (σ68 8) (σ68 59) (σ68 55 6).toInt (σ68 55 4).toInt by rw [show σ68 3 = σ 3 from ((f70 3 (by decide)).trans (f52 3 (by decide))), show σ68 56 = σ 56 from ((f70 56 (by decide)).trans (f52 56 (by decide))), show σ68 6 = σ 6 from ((f70 6 (by decide)).trans (f52 6 (by decide))), show σ68 57 = σ 57 from ((f70 57 (by decide)).trans (f52 57 (by decide))), show σ68 7 = σ 7 from ((f70 7 (by decide)).trans (f52 7 (by decide))), show σ68 58 = σ 58 from ((f70 58 (by decide)).trans (f52 58 (by decide))), show σ68 8 = σ 8 from ((f70 8 (by decide)).trans (f52 8 (by decide))), show σ68 59 = σ 59 from ((f70 59 (by decide)).trans (f52 59 (by decide))), show (σ68 55 6).toInt = (σ 55 6).toInt from by omega, show (σ68 55 4).toInt = (σ 55 4).toInt from by omega]; exact hr0), (show jOvP (σ68 56) (σ68 57) (σ68 58) (σ68 59) (σ68 55 4).toInt by rw [show σ68 56 = σ 56 from ((f70 56 (by decide)).trans (f52 56 (by decide))), show σ68 57 = σ 57 from ((f70 57 (by decide)).trans (f52 57 (by decide))), show σ68 58 = σ 58 from ((f70 58 (by decide)).trans (f52 58 (by decide))), show σ68 59 = σ 59 from ((f70 59 (by decide)).trans (f52 59 (by decide))), show (σ68 55 4).toInt = (σ 55 4).toInt from by omega]; exact hr1), (show jTp (σ68 10) (σ68 63) (σ68 55 15).toInt by rw [show σ68 10 = σ 10 from ((f70 10 (by decide)).trans k64), show σ68 63 = σ 63 from (k81.trans (f52 63 (by decide)))]; exact hr2.le (by omega)), (show jSo (σ68 17) (σ68 62) (σ68 16 0).toInt by rw [show σ68 17 = σ 17 from ((f70 17 (by decide)).trans (f52 17 (by decide))), show σ68 62 = σ 62 from ((f70 62 (by decide)).trans (f52 62 (by decide))), show (σ68 16 0).toInt = (σ 16 0).toInt from by omega]; exact hr3), (show jShP (σ68 51) (σ68 52) (σ68 53) (σ68 86) (σ68 87) (σ68 55 32).toInt by rw [show σ68 51 = σ 51 from ((f70 51 (by decide)).trans (f52 51 (by decide))), show σ68 52 = σ 52 from ((f70 52 (by decide)).trans (f52 52 (by decide))), show σ68 53 = σ 53 from ((f70 53 (by decide)).trans (f52 53 (by decide))), show σ68 86 = σ 86 from ((f70 86 (by decide)).trans (f52 86 (by decide))), show σ68 87 = σ 87 from ((f70 87 (by decide)).trans (f52 87 (by decide)))]; exact (hr4.up (by omega) (by omega))), (show jEl (σ68 51) (σ68 52) (τ 54) (τ 88) by rw [show σ68 51 = σ 51 from ((f70 51 (by decide)).trans (f52 51 (by decide))), show σ68 52 = σ 52 from ((f70 52 (by decide)).trans (f52 52 (by decide)))]; exact hr5), (show jByP (σ68 51) (σ68 52) (τ 54) by rw [show σ68 51 = σ 51 from ((f70 51 (by decide)).trans (f52 51 (by decide))), show σ68 52 = σ 52 from ((f70 52 (by decide)).trans (f52 52 (by decide)))]; exact hr6), (show jBk (σ68 48) (σ68 80) (σ68 49) (σ68 81) (σ68 55 47).toInt by rw [show σ68 48 = σ 48 from ((f70 48 (by decide)).trans (f52 48 (by decide))), show σ68 49 = σ 49 from ((f70 49 (by decide)).trans (f52 49 (by decide))), show σ68 80 = σ 80 from ((f70 80 (by decide)).trans (f52 80 (by decide))), show σ68 81 = σ 81 from ((f70 81 (by decide)).trans (f52 81 (by decide))), show (σ68 55 47).toInt = (σ 55 47).toInt from by omega]; exact hr7)⟩ hP hS (lv_sub hl [0, 1, 2, 3] rfl)
    · obtain ⟨q131, k127, k128, k129, k130⟩ := h77
      exact absurd (by omega : False) id
    · obtain ⟨q137, k132, k133, k134, k135, k136⟩ := h78
      exact absurd (by omega : False) id
  · obtain ⟨q142, k138, k139, k140, k141⟩ := h60
    have q142 := q142.symm
    subst q142
    refine lv_pop hx hb dL_law_362 rfl ?_
    refine lv_aload_n hx hb dL_law_363 rfl (lv_at hl 1 rfl) ?_
    refine lv_aload_n hx hb dL_law_364 rfl (lv_at hl 3 rfl) ?_
    refine lv_iload_n hx hb dL_law_365 rfl (lv_at hl 0 rfl) ?_
    refine lv_iconst (v := 1) hx hb dL_law_366 (by decide) ?_
    refine lv_iadd hx hb dL_law_367 ?_
    refine jtopr ex46.symm ?_
    refine va_sld hx hb hX hbl hbA hS (jin tx46 (by omega) (by omega)) dL_law_368 ?_
    refine lv_aload_n hx hb dL_law_369 rfl (lv_at hl 3 rfl) ?_
    refine lv_iload_n hx hb dL_law_370 rfl (lv_at hl 0 rfl) ?_
    refine lv_iconst (v := 2) hx hb dL_law_371 (by decide) ?_
    refine lv_iadd hx hb dL_law_372 ?_
    refine jtopr ex48.symm ?_
    refine va_sld hx hb hX hbl hbA hS (jin tx48 (by omega) (by omega)) dL_law_373 ?_
    have I143 : jI105 σ50 := jI105_fr (congrFun (f52 55 (by decide)) 15) (f52 65 (by decide)) hI105
    have z144 : (σ50 55 15).toInt = (σ 55 15).toInt := (congrArg Int32.toInt (show σ50 55 15 = (σ 55 15) from (congrFun (f52 55 (by decide)) 15)))
    refine jcallV (As := [.int (xs x46.toNatClampNeg), .int (xs x48.toNatClampNeg)]) (rest := []) ⟨hx, hb, hml, hown, hts⟩ hK hP hA hS hZ (c_X12_feed l D cI cL ad zz hJ σ50 τ (xs x46.toNatClampNeg) ((xs x46.toNatClampNeg).toInt) rfl (xs x48.toNatClampNeg) ((xs x48.toNatClampNeg).toInt) rfl I143) cw_RL_35 (jc_55 cI cL ad σ50 τ) rfl ⟨Nat.le_of_ble_eq_true rfl, Nat.le_of_ble_eq_true rfl⟩ rfl rfl rfl hl.1 rfl (Nat.le_of_ble_eq_true rfl) dL_law_374 ⟨Nat.le_of_ble_eq_true rfl, Nat.le_of_ble_eq_true rfl⟩ (fun r146 σ145 τ145 H locs h145 hP hS => ?_)
    obtain ⟨rfl, f147, f148, I149, h145⟩ := h145
    obtain ⟨i151, w152⟩ : (0 ≤ (σ145 55 15).toInt ∧ (σ145 55 15).toInt ≤ 80) ∧ (∀ k : Nat, k < 2 → (-1) ≤ (σ145 65 k).toInt ∧ (σ145 65 k).toInt ≤ 80) := id I149
    rcases h145 with h153 | h154 | h155
    · obtain ⟨q159, k156, k157, k158⟩ := h153
      exact absurd (by omega : False) id
    · obtain ⟨q164, k160, k161, k162, k163⟩ := h154
      have q164 := q164.symm
      subst q164
      refine lv_pop hx hb dL_law_377 rfl ?_
      refine lv_goto (tgt := 1357) hx hb dL_law_378 (by decide) ?_
      obtain ⟨x165, ex165⟩ : ∃ y : Int32, y = x0 + 6 := ⟨_, rfl⟩
      have tx165 : x165.toInt = x0.toInt + 6 := (jadd ex165 rfl jz_6 (by omega) (by omega)).trans (by omega)
      refine lv_iinc (v := x165) (lv' := [(3, .int x165), (2, .ref (ad 55)), (1, .ref (ad 0)), (0, .ref b)]) hx hb dL_law_1357 hl (k := 0) rfl (by rw [ex165]; rfl) (by decide) rfl (fun ls hl => ?_)
      refine lv_goto (tgt := 18) hx hb dL_law_1360 (by decide) ?_
      have I166 : jI2 σ145 := jI2_fr ((congrFun (f147 2 (by decide)) 0).trans (congrFun (f52 2 (by decide)) 0)) ((congrFun (f147 2 (by decide)) 1).trans (congrFun (f52 2 (by decide)) 1)) ((congrFun (f147 2 (by decide)) 2).trans (congrFun (f52 2 (by decide)) 2)) ((congrFun (f147 2 (by decide)) 3).trans (congrFun (f52 2 (by decide)) 3)) ((f147 6 (by decide)).trans (f52 6 (by decide))) hI2
      have I167 : jI9 σ145 := jI9_fr (congrFun (f147 9 (by decide)) 0) (f147 10 (by decide)) (f147 11 (by decide)) I54
      have I168 : jI12 σ145 := jI12_fr ((congrFun (f147 12 (by decide)) 0).trans (congrFun (f52 12 (by decide)) 0)) ((f147 13 (by decide)).trans (f52 13 (by decide))) hI12
      have I169 : jI16 σ145 := jI16_fr ((congrFun (f147 16 (by decide)) 0).trans (congrFun (f52 16 (by decide)) 0)) ((congrFun (f147 16 (by decide)) 1).trans (congrFun (f52 16 (by decide)) 1)) ((congrFun (f147 16 (by decide)) 2).trans (congrFun (f52 16 (by decide)) 2)) ((f147 17 (by decide)).trans (f52 17 (by decide))) hI16
      have I170 : jI18 σ145 := jI18_fr ((congrFun (f147 18 (by decide)) 0).trans (congrFun (f52 18 (by decide)) 0)) ((f147 19 (by decide)).trans (f52 19 (by decide))) hI18
      have I171 : jI22 σ145 := jI22_fr ((congrFun (f147 22 (by decide)) 0).trans (congrFun (f52 22 (by decide)) 0)) ((f147 23 (by decide)).trans (f52 23 (by decide))) hI22
      have I172 : jI31 σ145 := jI31_fr ((congrFun (f147 31 (by decide)) 8).trans (congrFun (f52 31 (by decide)) 8)) ((f147 33 (by decide)).trans (f52 33 (by decide))) ((f147 36 (by decide)).trans (f52 36 (by decide))) hI31
      have I173 : jI38 σ145 := jI38_fr ((congrFun (f147 38 (by decide)) 0).trans (congrFun (f52 38 (by decide)) 0)) ((congrFun (f147 38 (by decide)) 1).trans (congrFun (f52 38 (by decide)) 1)) ((f147 39 (by decide)).trans (f52 39 (by decide))) hI38
      have I174 : jI43 σ145 := jI43_fr ((congrFun (f147 43 (by decide)) 8).trans (congrFun (f52 43 (by decide)) 8)) hI43
      have I175 : jI47 σ145 := jI47_fr ((congrFun (f147 47 (by decide)) 0).trans (congrFun (f52 47 (by decide)) 0)) ((f147 48 (by decide)).trans (f52 48 (by decide))) ((f147 49 (by decide)).trans (f52 49 (by decide))) hI47
      have I176 : jI50 σ145 := jI50_fr ((f147 52 (by decide)).trans (f52 52 (by decide))) hI50
      have I177 : jI101 σ145 := jI101_fr ((f148 4 (by decide)).trans (congrFun (f52 55 (by decide)) 4)) ((f148 5 (by decide)).trans (congrFun (f52 55 (by decide)) 5)) ((f147 56 (by decide)).trans (f52 56 (by decide))) ((f147 57 (by decide)).trans (f52 57 (by decide))) ((f147 58 (by decide)).trans (f52 58 (by decide))) ((f147 59 (by decide)).trans (f52 59 (by decide))) hI101
      have I178 : jI102 σ145 := jI102_fr ((f148 6 (by decide)).trans (congrFun (f52 55 (by decide)) 6)) ((f147 60 (by decide)).trans (f52 60 (by decide))) ((f147 61 (by decide)).trans (f52 61 (by decide))) hI102
      have I179 : jI103 σ145 := jI103_fr ((f148 9 (by decide)).trans (congrFun (f52 55 (by decide)) 9)) hI103
      have I180 : jI104 σ145 := jI104_fr ((f148 10 (by decide)).trans (congrFun (f52 55 (by decide)) 10)) ((f148 12 (by decide)).trans (congrFun (f52 55 (by decide)) 12)) ((f148 13 (by decide)).trans (congrFun (f52 55 (by decide)) 13)) ((f147 62 (by decide)).trans (f52 62 (by decide))) ((f147 67 (by decide)).trans (f52 67 (by decide))) hI104
      have I181 : jI106 σ145 := jI106_fr ((f148 32 (by decide)).trans (congrFun (f52 55 (by decide)) 32)) ((f147 70 (by decide)).trans (f52 70 (by decide))) ((f147 71 (by decide)).trans (f52 71 (by decide))) ((f147 72 (by decide)).trans (f52 72 (by decide))) hI106
      have I182 : jI107 σ145 := jI107_fr ((f148 12 (by decide)).trans (congrFun (f52 55 (by decide)) 12)) ((f148 47 (by decide)).trans (congrFun (f52 55 (by decide)) 47)) ((f147 80 (by decide)).trans (f52 80 (by decide))) hI107
      have I183 : jI109 σ145 := jI109_fr ((f148 50 (by decide)).trans (congrFun (f52 55 (by decide)) 50)) hI109
      have I184 : jI110 σ145 := jI110_fr ((f147 86 (by decide)).trans (f52 86 (by decide))) ((f147 87 (by decide)).trans (f52 87 (by decide))) hI110
      have I185 : jI111 σ145 := jI111_fr ((f147 79 (by decide)).trans (f52 79 (by decide))) hI111
      have I186 : jI119 σ145 := jI119_fr ((f147 68 (by decide)).trans (f52 68 (by decide))) hI119
      have p187 : jKept σ145 := jKept.fr ((f147 75 (by decide)).trans (f52 75 (by decide))) ((f147 76 (by decide)).trans (f52 76 (by decide))) ((f147 77 (by decide)).trans (f52 77 (by decide))) hs_jKept
      have p188 : jBook σ145 := jBook.fr ((f148 47 (by decide)).trans (congrFun (f52 55 (by decide)) 47)) ((f148 10 (by decide)).trans (congrFun (f52 55 (by decide)) 10)) ((f147 81 (by decide)).trans (f52 81 (by decide))) hs_jBook
      have z189 : (σ145 2 0).toInt = (σ 2 0).toInt := (congrArg Int32.toInt (show σ145 2 0 = (σ 2 0) from ((congrFun (f147 2 (by decide)) 0).trans (congrFun (f52 2 (by decide)) 0))))
      have z190 : (σ145 55 6).toInt = (σ 55 6).toInt := (congrArg Int32.toInt (show σ145 55 6 = (σ 55 6) from ((f148 6 (by decide)).trans (congrFun (f52 55 (by decide)) 6))))
      have z191 : (σ145 2 2).toInt = (σ 2 2).toInt := (congrArg Int32.toInt (show σ145 2 2 = (σ 2 2) from ((congrFun (f147 2 (by decide)) 2).trans (congrFun (f52 2 (by decide)) 2))))
      have z192 : (σ145 55 5).toInt = (σ 55 5).toInt := (congrArg Int32.toInt (show σ145 55 5 = (σ 55 5) from ((f148 5 (by decide)).trans (congrFun (f52 55 (by decide)) 5))))
      have z193 : (σ145 2 3).toInt = (σ 2 3).toInt := (congrArg Int32.toInt (show σ145 2 3 = (σ 2 3) from ((congrFun (f147 2 (by decide)) 3).trans (congrFun (f52 2 (by decide)) 3))))
      have z194 : (σ145 55 4).toInt = (σ 55 4).toInt := (congrArg Int32.toInt (show σ145 55 4 = (σ 55 4) from ((f148 4 (by decide)).trans (congrFun (f52 55 (by decide)) 4))))
      have z195 : (σ145 9 0).toInt = (σ50 9 0).toInt := (congrArg Int32.toInt (show σ145 9 0 = (σ50 9 0) from (congrFun (f147 9 (by decide)) 0)))
      have z196 : (σ145 16 0).toInt = (σ 16 0).toInt := (congrArg Int32.toInt (show σ145 16 0 = (σ 16 0) from ((congrFun (f147 16 (by decide)) 0).trans (congrFun (f52 16 (by decide)) 0))))
      have z197 : (σ145 55 10).toInt = (σ 55 10).toInt := (congrArg Int32.toInt (show σ145 55 10 = (σ 55 10) from ((f148 10 (by decide)).trans (congrFun (f52 55 (by decide)) 10))))
      have z198 : (σ145 16 1).toInt = (σ 16 1).toInt := (congrArg Int32.toInt (show σ145 16 1 = (σ 16 1) from ((congrFun (f147 16 (by decide)) 1).trans (congrFun (f52 16 (by decide)) 1))))
      have z199 : (σ145 55 12).toInt = (σ 55 12).toInt := (congrArg Int32.toInt (show σ145 55 12 = (σ 55 12) from ((f148 12 (by decide)).trans (congrFun (f52 55 (by decide)) 12))))
      have z200 : (σ145 16 2).toInt = (σ 16 2).toInt := (congrArg Int32.toInt (show σ145 16 2 = (σ 16 2) from ((congrFun (f147 16 (by decide)) 2).trans (congrFun (f52 16 (by decide)) 2))))
      have z201 : (σ145 55 13).toInt = (σ 55 13).toInt := (congrArg Int32.toInt (show σ145 55 13 = (σ 55 13) from ((f148 13 (by decide)).trans (congrFun (f52 55 (by decide)) 13))))
      have z202 : (σ145 38 0).toInt = (σ 38 0).toInt := (congrArg Int32.toInt (show σ145 38 0 = (σ 38 0) from ((congrFun (f147 38 (by decide)) 0).trans (congrFun (f52 38 (by decide)) 0))))
      have z203 : (σ145 55 32).toInt = (σ 55 32).toInt := (congrArg Int32.toInt (show σ145 55 32 = (σ 55 32) from ((f148 32 (by decide)).trans (congrFun (f52 55 (by decide)) 32))))
      have z204 : (σ145 47 0).toInt = (σ 47 0).toInt := (congrArg Int32.toInt (show σ145 47 0 = (σ 47 0) from ((congrFun (f147 47 (by decide)) 0).trans (congrFun (f52 47 (by decide)) 0))))
      have z205 : (σ145 55 47).toInt = (σ 55 47).toInt := (congrArg Int32.toInt (show σ145 55 47 = (σ 55 47) from ((f148 47 (by decide)).trans (congrFun (f52 55 (by decide)) 47))))
      have z206 : (σ145 55 30).toInt = (σ 55 30).toInt := (congrArg Int32.toInt (show σ145 55 30 = (σ 55 30) from ((f148 30 (by decide)).trans (congrFun (f52 55 (by decide)) 30))))
      have z207 : (σ145 55 31).toInt = (σ 55 31).toInt := (congrArg Int32.toInt (show σ145 55 31 = (σ 55 31) from ((f148 31 (by decide)).trans (congrFun (f52 55 (by decide)) 31))))
      exact ih x165 σ145 τ _ _ ls (by have h9 := tx165; omega) ⟨I166, I167, I168, I169, I170, I171, I172, I173, I174, I175, I176, I177, I178, I179, I180, I149, I181, I182, I183, I184, I185, I186, p187, p188, (by omega), (by omega), (by omega), (by omega), (by omega), (by omega), (by omega), (by omega), (by omega), (by omega), (by omega), (show jNumP (σ145 3) (σ145 56) (σ145 6) (σ145 57) (σ145 7) (σ145 58) (σ145 8) (σ145 59) (σ145 55 6).toInt (σ145 55 4).toInt by rw [show σ145 3 = σ 3 from ((f147 3 (by decide)).trans (f52 3 (by decide))), show σ145 56 = σ 56 from ((f147 56 (by decide)).trans (f52 56 (by decide))), show σ145 6 = σ 6 from ((f147 6 (by decide)).trans (f52 6 (by decide))), show σ145 57 = σ 57 from ((f147 57 (by decide)).trans (f52 57 (by decide))), show σ145 7 = σ 7 from ((f147 7 (by decide)).trans (f52 7 (by decide))), show σ145 58 = σ 58 from ((f147 58 (by decide)).trans (f52 58 (by decide))), show σ145 8 = σ 8 from ((f147 8 (by decide)).trans (f52 8 (by decide))), show σ145 59 = σ 59 from ((f147 59 (by decide)).trans (f52 59 (by decide))), show (σ145 55 6).toInt = (σ 55 6).toInt from by omega, show (σ145 55 4).toInt = (σ 55 4).toInt from by omega]; exact hr0), (show jOvP (σ145 56) (σ145 57) (σ145 58) (σ145 59) (σ145 55 4).toInt by rw [show σ145 56 = σ 56 from ((f147 56 (by decide)).trans (f52 56 (by decide))), show σ145 57 = σ 57 from ((f147 57 (by decide)).trans (f52 57 (by decide))), show σ145 58 = σ 58 from ((f147 58 (by decide)).trans (f52 58 (by decide))), show σ145 59 = σ 59 from ((f147 59 (by decide)).trans (f52 59 (by decide))), show (σ145 55 4).toInt = (σ 55 4).toInt from by omega]; exact hr1), (show jTp (σ145 10) (σ145 63) (σ145 55 15).toInt by rw [show σ145 10 = σ 10 from ((f147 10 (by decide)).trans k141), show σ145 63 = σ 63 from (k163.trans (f52 63 (by decide)))]; exact hr2.le (by omega)), (show jSo (σ145 17) (σ145 62) (σ145 16 0).toInt by rw [show σ145 17 = σ 17 from ((f147 17 (by decide)).trans (f52 17 (by decide))), show σ145 62 = σ 62 from ((f147 62 (by decide)).trans (f52 62 (by decide))), show (σ145 16 0).toInt = (σ 16 0).toInt from by omega]; exact hr3), (show jShP (σ145 51) (σ145 52) (σ145 53) (σ145 86) (σ145 87) (σ145 55 32).toInt by rw [show σ145 51 = σ 51 from ((f147 51 (by decide)).trans (f52 51 (by decide))), show σ145 52 = σ 52 from ((f147 52 (by decide)).trans (f52 52 (by decide))), show σ145 53 = σ 53 from ((f147 53 (by decide)).trans (f52 53 (by decide))), show σ145 86 = σ 86 from ((f147 86 (by decide)).trans (f52 86 (by decide))), show σ145 87 = σ 87 from ((f147 87 (by decide)).trans (f52 87 (by decide)))]; exact (hr4.up (by omega) (by omega))), (show jEl (σ145 51) (σ145 52) (τ 54) (τ 88) by rw [show σ145 51 = σ 51 from ((f147 51 (by decide)).trans (f52 51 (by decide))), show σ145 52 = σ 52 from ((f147 52 (by decide)).trans (f52 52 (by decide)))]; exact hr5), (show jByP (σ145 51) (σ145 52) (τ 54) by rw [show σ145 51 = σ 51 from ((f147 51 (by decide)).trans (f52 51 (by decide))), show σ145 52 = σ 52 from ((f147 52 (by decide)).trans (f52 52 (by decide)))]; exact hr6), (show jBk (σ145 48) (σ145 80) (σ145 49) (σ145 81) (σ145 55 47).toInt by rw [show σ145 48 = σ 48 from ((f147 48 (by decide)).trans (f52 48 (by decide))), show σ145 49 = σ 49 from ((f147 49 (by decide)).trans (f52 49 (by decide))), show σ145 80 = σ 80 from ((f147 80 (by decide)).trans (f52 80 (by decide))), show σ145 81 = σ 81 from ((f147 81 (by decide)).trans (f52 81 (by decide))), show (σ145 55 47).toInt = (σ 55 47).toInt from by omega]; exact hr7)⟩ hP hS (lv_sub hl [0, 1, 2, 3] rfl)
    · obtain ⟨q214, k209, k210, k211, k212, k213⟩ := h155
      exact absurd (by omega : False) id
  · obtain ⟨q220, k215, k216, k217, k218, k219⟩ := h61
    refine lv_pop hx hb dL_law_362 rfl ?_
    refine lv_aload_n hx hb dL_law_363 rfl (lv_at hl 1 rfl) ?_
    refine lv_aload_n hx hb dL_law_364 rfl (lv_at hl 3 rfl) ?_
    refine lv_iload_n hx hb dL_law_365 rfl (lv_at hl 0 rfl) ?_
    refine lv_iconst (v := 1) hx hb dL_law_366 (by decide) ?_
    refine lv_iadd hx hb dL_law_367 ?_
    refine jtopr ex46.symm ?_
    refine va_sld hx hb hX hbl hbA hS (jin tx46 (by omega) (by omega)) dL_law_368 ?_
    refine lv_aload_n hx hb dL_law_369 rfl (lv_at hl 3 rfl) ?_
    refine lv_iload_n hx hb dL_law_370 rfl (lv_at hl 0 rfl) ?_
    refine lv_iconst (v := 2) hx hb dL_law_371 (by decide) ?_
    refine lv_iadd hx hb dL_law_372 ?_
    refine jtopr ex48.symm ?_
    refine va_sld hx hb hX hbl hbA hS (jin tx48 (by omega) (by omega)) dL_law_373 ?_
    have I221 : jI105 σ50 := jI105_fr (congrFun (f52 55 (by decide)) 15) (f52 65 (by decide)) hI105
    have z222 : (σ50 55 15).toInt = (σ 55 15).toInt := (congrArg Int32.toInt (show σ50 55 15 = (σ 55 15) from (congrFun (f52 55 (by decide)) 15)))
    refine jcallV (As := [.int (xs x46.toNatClampNeg), .int (xs x48.toNatClampNeg)]) (rest := []) ⟨hx, hb, hml, hown, hts⟩ hK hP hA hS hZ (c_X12_feed l D cI cL ad zz hJ σ50 τ (xs x46.toNatClampNeg) ((xs x46.toNatClampNeg).toInt) rfl (xs x48.toNatClampNeg) ((xs x48.toNatClampNeg).toInt) rfl I221) cw_RL_35 (jc_55 cI cL ad σ50 τ) rfl ⟨Nat.le_of_ble_eq_true rfl, Nat.le_of_ble_eq_true rfl⟩ rfl rfl rfl hl.1 rfl (Nat.le_of_ble_eq_true rfl) dL_law_374 ⟨Nat.le_of_ble_eq_true rfl, Nat.le_of_ble_eq_true rfl⟩ (fun r224 σ223 τ223 H locs h223 hP hS => ?_)
    obtain ⟨rfl, f225, f226, I227, h223⟩ := h223
    obtain ⟨i229, w230⟩ : (0 ≤ (σ223 55 15).toInt ∧ (σ223 55 15).toInt ≤ 80) ∧ (∀ k : Nat, k < 2 → (-1) ≤ (σ223 65 k).toInt ∧ (σ223 65 k).toInt ≤ 80) := id I227
    rcases h223 with h231 | h232 | h233
    · obtain ⟨q237, k234, k235, k236⟩ := h231
      exact absurd (by omega : False) id
    · obtain ⟨q242, k238, k239, k240, k241⟩ := h232
      exact absurd (by omega : False) id
    · obtain ⟨q248, k243, k244, k245, k246, k247⟩ := h233
      refine lv_pop hx hb dL_law_377 rfl ?_
      refine lv_goto (tgt := 1357) hx hb dL_law_378 (by decide) ?_
      obtain ⟨x249, ex249⟩ : ∃ y : Int32, y = x0 + 6 := ⟨_, rfl⟩
      have tx249 : x249.toInt = x0.toInt + 6 := (jadd ex249 rfl jz_6 (by omega) (by omega)).trans (by omega)
      refine lv_iinc (v := x249) (lv' := [(3, .int x249), (2, .ref (ad 55)), (1, .ref (ad 0)), (0, .ref b)]) hx hb dL_law_1357 hl (k := 0) rfl (by rw [ex249]; rfl) (by decide) rfl (fun ls hl => ?_)
      refine lv_goto (tgt := 18) hx hb dL_law_1360 (by decide) ?_
      have I250 : jI2 σ223 := jI2_fr ((congrFun (f225 2 (by decide)) 0).trans (congrFun (f52 2 (by decide)) 0)) ((congrFun (f225 2 (by decide)) 1).trans (congrFun (f52 2 (by decide)) 1)) ((congrFun (f225 2 (by decide)) 2).trans (congrFun (f52 2 (by decide)) 2)) ((congrFun (f225 2 (by decide)) 3).trans (congrFun (f52 2 (by decide)) 3)) ((f225 6 (by decide)).trans (f52 6 (by decide))) hI2
      have I251 : jI9 σ223 := jI9_fr (congrFun (f225 9 (by decide)) 0) (f225 10 (by decide)) (f225 11 (by decide)) I54
      have I252 : jI12 σ223 := jI12_fr ((congrFun (f225 12 (by decide)) 0).trans (congrFun (f52 12 (by decide)) 0)) ((f225 13 (by decide)).trans (f52 13 (by decide))) hI12
      have I253 : jI16 σ223 := jI16_fr ((congrFun (f225 16 (by decide)) 0).trans (congrFun (f52 16 (by decide)) 0)) ((congrFun (f225 16 (by decide)) 1).trans (congrFun (f52 16 (by decide)) 1)) ((congrFun (f225 16 (by decide)) 2).trans (congrFun (f52 16 (by decide)) 2)) ((f225 17 (by decide)).trans (f52 17 (by decide))) hI16
      have I254 : jI18 σ223 := jI18_fr ((congrFun (f225 18 (by decide)) 0).trans (congrFun (f52 18 (by decide)) 0)) ((f225 19 (by decide)).trans (f52 19 (by decide))) hI18
      have I255 : jI22 σ223 := jI22_fr ((congrFun (f225 22 (by decide)) 0).trans (congrFun (f52 22 (by decide)) 0)) ((f225 23 (by decide)).trans (f52 23 (by decide))) hI22
      have I256 : jI31 σ223 := jI31_fr ((congrFun (f225 31 (by decide)) 8).trans (congrFun (f52 31 (by decide)) 8)) ((f225 33 (by decide)).trans (f52 33 (by decide))) ((f225 36 (by decide)).trans (f52 36 (by decide))) hI31
      have I257 : jI38 σ223 := jI38_fr ((congrFun (f225 38 (by decide)) 0).trans (congrFun (f52 38 (by decide)) 0)) ((congrFun (f225 38 (by decide)) 1).trans (congrFun (f52 38 (by decide)) 1)) ((f225 39 (by decide)).trans (f52 39 (by decide))) hI38
      have I258 : jI43 σ223 := jI43_fr ((congrFun (f225 43 (by decide)) 8).trans (congrFun (f52 43 (by decide)) 8)) hI43
      have I259 : jI47 σ223 := jI47_fr ((congrFun (f225 47 (by decide)) 0).trans (congrFun (f52 47 (by decide)) 0)) ((f225 48 (by decide)).trans (f52 48 (by decide))) ((f225 49 (by decide)).trans (f52 49 (by decide))) hI47
      have I260 : jI50 σ223 := jI50_fr ((f225 52 (by decide)).trans (f52 52 (by decide))) hI50
      have I261 : jI101 σ223 := jI101_fr ((f226 4 (by decide)).trans (congrFun (f52 55 (by decide)) 4)) ((f226 5 (by decide)).trans (congrFun (f52 55 (by decide)) 5)) ((f225 56 (by decide)).trans (f52 56 (by decide))) ((f225 57 (by decide)).trans (f52 57 (by decide))) ((f225 58 (by decide)).trans (f52 58 (by decide))) ((f225 59 (by decide)).trans (f52 59 (by decide))) hI101
      have I262 : jI102 σ223 := jI102_fr ((f226 6 (by decide)).trans (congrFun (f52 55 (by decide)) 6)) ((f225 60 (by decide)).trans (f52 60 (by decide))) ((f225 61 (by decide)).trans (f52 61 (by decide))) hI102
      have I263 : jI103 σ223 := jI103_fr ((f226 9 (by decide)).trans (congrFun (f52 55 (by decide)) 9)) hI103
      have I264 : jI104 σ223 := jI104_fr ((f226 10 (by decide)).trans (congrFun (f52 55 (by decide)) 10)) ((f226 12 (by decide)).trans (congrFun (f52 55 (by decide)) 12)) ((f226 13 (by decide)).trans (congrFun (f52 55 (by decide)) 13)) ((f225 62 (by decide)).trans (f52 62 (by decide))) ((f225 67 (by decide)).trans (f52 67 (by decide))) hI104
      have I265 : jI106 σ223 := jI106_fr ((f226 32 (by decide)).trans (congrFun (f52 55 (by decide)) 32)) ((f225 70 (by decide)).trans (f52 70 (by decide))) ((f225 71 (by decide)).trans (f52 71 (by decide))) ((f225 72 (by decide)).trans (f52 72 (by decide))) hI106
      have I266 : jI107 σ223 := jI107_fr ((f226 12 (by decide)).trans (congrFun (f52 55 (by decide)) 12)) ((f226 47 (by decide)).trans (congrFun (f52 55 (by decide)) 47)) ((f225 80 (by decide)).trans (f52 80 (by decide))) hI107
      have I267 : jI109 σ223 := jI109_fr ((f226 50 (by decide)).trans (congrFun (f52 55 (by decide)) 50)) hI109
      have I268 : jI110 σ223 := jI110_fr ((f225 86 (by decide)).trans (f52 86 (by decide))) ((f225 87 (by decide)).trans (f52 87 (by decide))) hI110
      have I269 : jI111 σ223 := jI111_fr ((f225 79 (by decide)).trans (f52 79 (by decide))) hI111
      have I270 : jI119 σ223 := jI119_fr ((f225 68 (by decide)).trans (f52 68 (by decide))) hI119
      have p271 : jKept σ223 := jKept.fr ((f225 75 (by decide)).trans (f52 75 (by decide))) ((f225 76 (by decide)).trans (f52 76 (by decide))) ((f225 77 (by decide)).trans (f52 77 (by decide))) hs_jKept
      have p272 : jBook σ223 := jBook.fr ((f226 47 (by decide)).trans (congrFun (f52 55 (by decide)) 47)) ((f226 10 (by decide)).trans (congrFun (f52 55 (by decide)) 10)) ((f225 81 (by decide)).trans (f52 81 (by decide))) hs_jBook
      have z273 : (σ223 2 0).toInt = (σ 2 0).toInt := (congrArg Int32.toInt (show σ223 2 0 = (σ 2 0) from ((congrFun (f225 2 (by decide)) 0).trans (congrFun (f52 2 (by decide)) 0))))
      have z274 : (σ223 55 6).toInt = (σ 55 6).toInt := (congrArg Int32.toInt (show σ223 55 6 = (σ 55 6) from ((f226 6 (by decide)).trans (congrFun (f52 55 (by decide)) 6))))
      have z275 : (σ223 2 2).toInt = (σ 2 2).toInt := (congrArg Int32.toInt (show σ223 2 2 = (σ 2 2) from ((congrFun (f225 2 (by decide)) 2).trans (congrFun (f52 2 (by decide)) 2))))
      have z276 : (σ223 55 5).toInt = (σ 55 5).toInt := (congrArg Int32.toInt (show σ223 55 5 = (σ 55 5) from ((f226 5 (by decide)).trans (congrFun (f52 55 (by decide)) 5))))
      have z277 : (σ223 2 3).toInt = (σ 2 3).toInt := (congrArg Int32.toInt (show σ223 2 3 = (σ 2 3) from ((congrFun (f225 2 (by decide)) 3).trans (congrFun (f52 2 (by decide)) 3))))
      have z278 : (σ223 55 4).toInt = (σ 55 4).toInt := (congrArg Int32.toInt (show σ223 55 4 = (σ 55 4) from ((f226 4 (by decide)).trans (congrFun (f52 55 (by decide)) 4))))
      have z279 : (σ223 9 0).toInt = (σ50 9 0).toInt := (congrArg Int32.toInt (show σ223 9 0 = (σ50 9 0) from (congrFun (f225 9 (by decide)) 0)))
      have z280 : (σ223 16 0).toInt = (σ 16 0).toInt := (congrArg Int32.toInt (show σ223 16 0 = (σ 16 0) from ((congrFun (f225 16 (by decide)) 0).trans (congrFun (f52 16 (by decide)) 0))))
      have z281 : (σ223 55 10).toInt = (σ 55 10).toInt := (congrArg Int32.toInt (show σ223 55 10 = (σ 55 10) from ((f226 10 (by decide)).trans (congrFun (f52 55 (by decide)) 10))))
      have z282 : (σ223 16 1).toInt = (σ 16 1).toInt := (congrArg Int32.toInt (show σ223 16 1 = (σ 16 1) from ((congrFun (f225 16 (by decide)) 1).trans (congrFun (f52 16 (by decide)) 1))))
      have z283 : (σ223 55 12).toInt = (σ 55 12).toInt := (congrArg Int32.toInt (show σ223 55 12 = (σ 55 12) from ((f226 12 (by decide)).trans (congrFun (f52 55 (by decide)) 12))))
      have z284 : (σ223 16 2).toInt = (σ 16 2).toInt := (congrArg Int32.toInt (show σ223 16 2 = (σ 16 2) from ((congrFun (f225 16 (by decide)) 2).trans (congrFun (f52 16 (by decide)) 2))))
      have z285 : (σ223 55 13).toInt = (σ 55 13).toInt := (congrArg Int32.toInt (show σ223 55 13 = (σ 55 13) from ((f226 13 (by decide)).trans (congrFun (f52 55 (by decide)) 13))))
      have z286 : (σ223 38 0).toInt = (σ 38 0).toInt := (congrArg Int32.toInt (show σ223 38 0 = (σ 38 0) from ((congrFun (f225 38 (by decide)) 0).trans (congrFun (f52 38 (by decide)) 0))))
      have z287 : (σ223 55 32).toInt = (σ 55 32).toInt := (congrArg Int32.toInt (show σ223 55 32 = (σ 55 32) from ((f226 32 (by decide)).trans (congrFun (f52 55 (by decide)) 32))))
      have z288 : (σ223 47 0).toInt = (σ 47 0).toInt := (congrArg Int32.toInt (show σ223 47 0 = (σ 47 0) from ((congrFun (f225 47 (by decide)) 0).trans (congrFun (f52 47 (by decide)) 0))))
      have z289 : (σ223 55 47).toInt = (σ 55 47).toInt := (congrArg Int32.toInt (show σ223 55 47 = (σ 55 47) from ((f226 47 (by decide)).trans (congrFun (f52 55 (by decide)) 47))))
      have z290 : (σ223 55 30).toInt = (σ 55 30).toInt := (congrArg Int32.toInt (show σ223 55 30 = (σ 55 30) from ((f226 30 (by decide)).trans (congrFun (f52 55 (by decide)) 30))))
      have z291 : (σ223 55 31).toInt = (σ 55 31).toInt := (congrArg Int32.toInt (show σ223 55 31 = (σ 55 31) from ((f226 31 (by decide)).trans (congrFun (f52 55 (by decide)) 31))))
      rw [show (σ 9 0).toInt = (σ 55 15).toInt from by omega] at k219
      rw [show (σ50 55 15).toInt = (σ 55 15).toInt from by omega, show σ50 63 = σ 63 from (f52 63 (by decide))] at k247
      exact ih x249 σ223 τ _ _ ls (by have h9 := tx249; omega) ⟨I250, I251, I252, I253, I254, I255, I256, I257, I258, I259, I260, I261, I262, I263, I264, I227, I265, I266, I267, I268, I269, I270, p271, p272, (by omega), (by omega), (by omega), (by omega), (by omega), (by omega), (by omega), (by omega), (by omega), (by omega), (by omega), (show jNumP (σ223 3) (σ223 56) (σ223 6) (σ223 57) (σ223 7) (σ223 58) (σ223 8) (σ223 59) (σ223 55 6).toInt (σ223 55 4).toInt by rw [show σ223 3 = σ 3 from ((f225 3 (by decide)).trans (f52 3 (by decide))), show σ223 56 = σ 56 from ((f225 56 (by decide)).trans (f52 56 (by decide))), show σ223 6 = σ 6 from ((f225 6 (by decide)).trans (f52 6 (by decide))), show σ223 57 = σ 57 from ((f225 57 (by decide)).trans (f52 57 (by decide))), show σ223 7 = σ 7 from ((f225 7 (by decide)).trans (f52 7 (by decide))), show σ223 58 = σ 58 from ((f225 58 (by decide)).trans (f52 58 (by decide))), show σ223 8 = σ 8 from ((f225 8 (by decide)).trans (f52 8 (by decide))), show σ223 59 = σ 59 from ((f225 59 (by decide)).trans (f52 59 (by decide))), show (σ223 55 6).toInt = (σ 55 6).toInt from by omega, show (σ223 55 4).toInt = (σ 55 4).toInt from by omega]; exact hr0), (show jOvP (σ223 56) (σ223 57) (σ223 58) (σ223 59) (σ223 55 4).toInt by rw [show σ223 56 = σ 56 from ((f225 56 (by decide)).trans (f52 56 (by decide))), show σ223 57 = σ 57 from ((f225 57 (by decide)).trans (f52 57 (by decide))), show σ223 58 = σ 58 from ((f225 58 (by decide)).trans (f52 58 (by decide))), show σ223 59 = σ 59 from ((f225 59 (by decide)).trans (f52 59 (by decide))), show (σ223 55 4).toInt = (σ 55 4).toInt from by omega]; exact hr1), (show jTp (σ223 10) (σ223 63) (σ223 55 15).toInt by rw [show σ223 10 = σ50 10 from (f225 10 (by decide))]; exact hr2.feed k219 k247 (by omega) (by omega) (by omega)), (show jSo (σ223 17) (σ223 62) (σ223 16 0).toInt by rw [show σ223 17 = σ 17 from ((f225 17 (by decide)).trans (f52 17 (by decide))), show σ223 62 = σ 62 from ((f225 62 (by decide)).trans (f52 62 (by decide))), show (σ223 16 0).toInt = (σ 16 0).toInt from by omega]; exact hr3), (show jShP (σ223 51) (σ223 52) (σ223 53) (σ223 86) (σ223 87) (σ223 55 32).toInt by rw [show σ223 51 = σ 51 from ((f225 51 (by decide)).trans (f52 51 (by decide))), show σ223 52 = σ 52 from ((f225 52 (by decide)).trans (f52 52 (by decide))), show σ223 53 = σ 53 from ((f225 53 (by decide)).trans (f52 53 (by decide))), show σ223 86 = σ 86 from ((f225 86 (by decide)).trans (f52 86 (by decide))), show σ223 87 = σ 87 from ((f225 87 (by decide)).trans (f52 87 (by decide)))]; exact (hr4.up (by omega) (by omega))), (show jEl (σ223 51) (σ223 52) (τ 54) (τ 88) by rw [show σ223 51 = σ 51 from ((f225 51 (by decide)).trans (f52 51 (by decide))), show σ223 52 = σ 52 from ((f225 52 (by decide)).trans (f52 52 (by decide)))]; exact hr5), (show jByP (σ223 51) (σ223 52) (τ 54) by rw [show σ223 51 = σ 51 from ((f225 51 (by decide)).trans (f52 51 (by decide))), show σ223 52 = σ 52 from ((f225 52 (by decide)).trans (f52 52 (by decide)))]; exact hr6), (show jBk (σ223 48) (σ223 80) (σ223 49) (σ223 81) (σ223 55 47).toInt by rw [show σ223 48 = σ 48 from ((f225 48 (by decide)).trans (f52 48 (by decide))), show σ223 49 = σ 49 from ((f225 49 (by decide)).trans (f52 49 (by decide))), show σ223 80 = σ 80 from ((f225 80 (by decide)).trans (f52 80 (by decide))), show σ223 81 = σ 81 from ((f225 81 (by decide)).trans (f52 81 (by decide))), show (σ223 55 47).toInt = (σ 55 47).toInt from by omega]; exact hr7)⟩ hP hS (lv_sub hl [0, 1, 2, 3] rfl)
set_option maxHeartbeats 4000000 in
set_option maxRecDepth 100000 in
theorem law_case_5 {p : Program} {e : Env} {s : State} {m : MethodId} {below : List Frame} {meth : Method} {c : Code} (l : Launch) {b L : Nat} {xs : Nat → Int32} {D : va_G} {cI cL : ClassId} {ad zz : Nat → Nat} (C0 : lw_At p s m meth c b L xs) (hJ : jD ad) (hA : ∀ q, jA ad q → s.heap.size ≤ q) (hK : jK D cI cL s) (hZ : jZ zz (fun q : Nat => s.heap.size ≤ q) s s.heap) {x0 : Int32} (hx0 : 0 ≤ x0.toInt) (hxL : x0.toInt + 6 ≤ (L : Int)) (hL : L ≤ 384) {σ : Nat → Nat → Int32} {τ : Nat → Nat → Int64} {H : Heap} {locs : List Loc} (hS : va_S (fun q : Nat => s.heap.size ≤ q) s.heap H locs) {ls : Array Slot} (hAll : jAll σ τ) (hP : jH D cI cL ad σ τ H) (hl : lv_has ls 4 [(3, .int x0), (2, .ref (ad 55)), (1, .ref (ad 0)), (0, .ref b)]) (ih : ∀ (x1 : Int32) (σ : Nat → Nat → Int32) (τ : Nat → Nat → Int64) (H : Heap) (locs : List Loc) (ls : Array Slot), x1.toInt = x0.toInt + 6 → jAll σ τ → jH D cI cL ad σ τ H → va_S (fun q : Nat => s.heap.size ≤ q) s.heap H locs → lv_has ls 4 [(3, .int x1), (2, .ref (ad 55)), (1, .ref (ad 0)), (0, .ref b)] → W p l e room_1 s m #[Value.ref b] below meth c H locs 90 348600 (lw_Z below #[Value.ref b] s) (F0 m 18 ls [])) : W p l e room_1 s m #[Value.ref b] below meth c H locs 90 348600 (lw_Z below #[Value.ref b] s) (F0 m 381 ls []) := by
  obtain ⟨hx, hb, hr, hml, hown, hts0, hX, hbl, hlocks, hgv⟩ := C0
  have hts : ∀ w ∈ wsL_law, w.before #[Value.ref b] s = true := fun w h => hts0 w (wsL_law_in w h)
  have hbA : ¬ (fun q : Nat => s.heap.size ≤ q) b := Nat.not_le.mpr hbl
  have hown : s.vm.findClass RL = some m.cls := hown
  obtain ⟨hI2, hI9, hI12, hI16, hI18, hI22, hI31, hI38, hI43, hI47, hI50, hI101, hI102, hI103, hI104, hI105, hI106, hI107, hI109, hI110, hI111, hI119, hs_jKept, hs_jBook, ht0, ht1, ht2, ht3, ht4, ht5, ht6, ht7, ht8, ht9, ht10, hr0, hr1, hr2, hr3, hr4, hr5, hr6, hr7⟩ := hAll
  have hL9 : (L : Int) ≤ 384 := by omega
  obtain ⟨i1, i2, i3, i4, i5, w6⟩ : (0 ≤ (σ 2 0).toInt ∧ (σ 2 0).toInt ≤ 4) ∧ (0 ≤ (σ 2 1).toInt ∧ (σ 2 1).toInt ≤ 3) ∧ (0 ≤ (σ 2 2).toInt) ∧ (0 ≤ (σ 2 3).toInt) ∧ ((σ 2 2).toInt + (σ 2 3).toInt ≤ 40) ∧ (∀ k : Nat, k < 40 → 0 ≤ (σ 6 k).toInt ∧ (σ 6 k).toInt ≤ 67) := id hI2
  obtain ⟨i7, w8, w9⟩ : (0 ≤ (σ 9 0).toInt ∧ (σ 9 0).toInt ≤ 80) ∧ (∀ k : Nat, k < 80 → 0 ≤ (σ 10 k).toInt ∧ (σ 10 k).toInt ≤ 255) ∧ (∀ k : Nat, k < 8 → 0 ≤ (σ 11 k).toInt ∧ (σ 11 k).toInt ≤ 3) := id hI9
  obtain ⟨i10, i11, i12, w13⟩ : (1 ≤ (σ 16 0).toInt ∧ (σ 16 0).toInt ≤ 8) ∧ (1 ≤ (σ 16 1).toInt ∧ (σ 16 1).toInt ≤ 12) ∧ (0 ≤ (σ 16 2).toInt ∧ (σ 16 2).toInt ≤ 999) ∧ (∀ k : Nat, k < 8 → 0 ≤ (σ 17 k).toInt ∧ (σ 17 k).toInt ≤ 3) := id hI16
  obtain ⟨i14, i15, w16⟩ : (0 ≤ (σ 38 0).toInt ∧ (σ 38 0).toInt ≤ 20) ∧ (0 ≤ (σ 38 1).toInt ∧ (σ 38 1).toInt ≤ 1000) ∧ (∀ k : Nat, k < 20 → 0 ≤ (σ 39 k).toInt ∧ (σ 39 k).toInt ≤ 6) := id hI38
  obtain ⟨i17, w18, w19⟩ : (0 ≤ (σ 47 0).toInt ∧ (σ 47 0).toInt ≤ 12) ∧ (∀ k : Nat, k < 12 → 0 ≤ (σ 48 k).toInt ∧ (σ 48 k).toInt ≤ 3) ∧ (∀ k : Nat, k < 12 → 0 ≤ (σ 49 k).toInt ∧ (σ 49 k).toInt ≤ 1) := id hI47
  have w20 : ∀ k : Nat, k < 6 → 0 ≤ (σ 52 k).toInt ∧ (σ 52 k).toInt ≤ 60 := hI50
  obtain ⟨i21, i22, i23, w24, w25, w26, w27⟩ : (0 ≤ (σ 55 5).toInt) ∧ ((σ 55 5).toInt ≤ (σ 55 4).toInt) ∧ ((σ 55 4).toInt ≤ 40) ∧ (∀ k : Nat, k < 68 → (-200) ≤ (σ 56 k).toInt ∧ (σ 56 k).toInt ≤ 500) ∧ (∀ k : Nat, k < 40 → 0 ≤ (σ 57 k).toInt ∧ (σ 57 k).toInt ≤ 67) ∧ (∀ k : Nat, k < 40 → (-200) ≤ (σ 58 k).toInt ∧ (σ 58 k).toInt ≤ 500) ∧ (∀ k : Nat, k < 40 → (-200) ≤ (σ 59 k).toInt ∧ (σ 59 k).toInt ≤ 500) := id hI101
  obtain ⟨i28, w29, w30⟩ : (0 ≤ (σ 55 6).toInt ∧ (σ 55 6).toInt ≤ 4) ∧ (∀ k : Nat, k < 4 → 0 ≤ (σ 60 k).toInt ∧ (σ 60 k).toInt ≤ 50) ∧ (∀ k : Nat, k < 4 → 0 ≤ (σ 61 k).toInt ∧ (σ 61 k).toInt ≤ 20) := id hI102
  obtain ⟨i31, i32, i33, w34, w35⟩ : (1 ≤ (σ 55 10).toInt ∧ (σ 55 10).toInt ≤ 8) ∧ (1 ≤ (σ 55 12).toInt ∧ (σ 55 12).toInt ≤ 12) ∧ (0 ≤ (σ 55 13).toInt ∧ (σ 55 13).toInt ≤ 999) ∧ (∀ k : Nat, k < 8 → 0 ≤ (σ 62 k).toInt ∧ (σ 62 k).toInt ≤ 3) ∧ (∀ k : Nat, k < 8 → 0 ≤ (σ 67 k).toInt ∧ (σ 67 k).toInt ≤ 3) := id hI104
  obtain ⟨i36, w37⟩ : (0 ≤ (σ 55 15).toInt ∧ (σ 55 15).toInt ≤ 80) ∧ (∀ k : Nat, k < 2 → (-1) ≤ (σ 65 k).toInt ∧ (σ 65 k).toInt ≤ 80) := id hI105
  obtain ⟨i38, w39, w40, w41⟩ : (0 ≤ (σ 55 32).toInt ∧ (σ 55 32).toInt ≤ 20) ∧ (∀ k : Nat, k < 20 → 0 ≤ (σ 70 k).toInt ∧ (σ 70 k).toInt ≤ 6) ∧ (∀ k : Nat, k < 20 → 0 ≤ (σ 71 k).toInt ∧ (σ 71 k).toInt ≤ 8) ∧ (∀ k : Nat, k < 160 → 0 ≤ (σ 72 k).toInt ∧ (σ 72 k).toInt ≤ 3) := id hI106
  obtain ⟨i42, i43, w44⟩ : (0 ≤ (σ 55 47).toInt ∧ (σ 55 47).toInt ≤ 12) ∧ ((σ 55 47).toInt ≤ (σ 55 12).toInt) ∧ (∀ k : Nat, k < 12 → 0 ≤ (σ 80 k).toInt ∧ (σ 80 k).toInt ≤ 3) := id hI107
  refine lv_aload_n hx hb dL_law_381 rfl (lv_at hl 2 rfl) ?_
  refine jcallV (As := []) (rest := []) ⟨hx, hb, hml, hown, hts⟩ hK hP hA hS hZ (c_X11_order l D cI cL ad zz hJ σ τ hI9 hI16 hI47) cw_RL_36 (jc_0 cI cL ad σ τ) rfl ⟨Nat.le_of_ble_eq_true rfl, Nat.le_of_ble_eq_true rfl⟩ rfl rfl rfl hl.1 rfl (Nat.le_of_ble_eq_true rfl) dL_law_382 ⟨Nat.le_of_ble_eq_true rfl, Nat.le_of_ble_eq_true rfl⟩ (fun r46 σ45 τ45 H locs h45 hP hS => ?_)
  obtain ⟨rfl, f47, f48, f49, f50, I51, I52, I53, w54, h45⟩ := h45
  obtain ⟨i56, w57, w58⟩ : (0 ≤ (σ45 9 0).toInt ∧ (σ45 9 0).toInt ≤ 80) ∧ (∀ k : Nat, k < 80 → 0 ≤ (σ45 10 k).toInt ∧ (σ45 10 k).toInt ≤ 255) ∧ (∀ k : Nat, k < 8 → 0 ≤ (σ45 11 k).toInt ∧ (σ45 11 k).toInt ≤ 3) := id I51
  obtain ⟨i59, i60, i61, w62⟩ : (1 ≤ (σ45 16 0).toInt ∧ (σ45 16 0).toInt ≤ 8) ∧ (1 ≤ (σ45 16 1).toInt ∧ (σ45 16 1).toInt ≤ 12) ∧ (0 ≤ (σ45 16 2).toInt ∧ (σ45 16 2).toInt ≤ 999) ∧ (∀ k : Nat, k < 8 → 0 ≤ (σ45 17 k).toInt ∧ (σ45 17 k).toInt ≤ 3) := id I52
  obtain ⟨i63, w64, w65⟩ : (0 ≤ (σ45 47 0).toInt ∧ (σ45 47 0).toInt ≤ 12) ∧ (∀ k : Nat, k < 12 → 0 ≤ (σ45 48 k).toInt ∧ (σ45 48 k).toInt ≤ 3) ∧ (∀ k : Nat, k < 12 → 0 ≤ (σ45 49 k).toInt ∧ (σ45 49 k).toInt ≤ 1) := id I53
  obtain ⟨k66, h45⟩ := h45
  rcases h45 with h67 | h68
  · obtain ⟨q71, k69, k70⟩ := h67
    refine lv_pop hx hb dL_law_385 rfl ?_
    refine lv_aload_n hx hb dL_law_386 rfl (lv_at hl 1 rfl) ?_
    have I72 : jI104 σ45 := jI104_fr (congrFun (f47 55 (by decide)) 10) (congrFun (f47 55 (by decide)) 12) (congrFun (f47 55 (by decide)) 13) (f47 62 (by decide)) (f47 67 (by decide)) hI104
    have I73 : jI105 σ45 := jI105_fr (congrFun (f47 55 (by decide)) 15) (f47 65 (by decide)) hI105
    have I74 : jI107 σ45 := jI107_fr (congrFun (f47 55 (by decide)) 12) (congrFun (f47 55 (by decide)) 47) (f47 80 (by decide)) hI107
    have p75 : jBook σ45 := jBook.fr (congrFun (f47 55 (by decide)) 47) (congrFun (f47 55 (by decide)) 10) (f47 81 (by decide)) hs_jBook
    have z76 : (σ45 55 47).toInt = (σ 55 47).toInt := (congrArg Int32.toInt (show σ45 55 47 = (σ 55 47) from (congrFun (f47 55 (by decide)) 47)))
    refine jcallV (As := []) (rest := []) ⟨hx, hb, hml, hown, hts⟩ hK hP hA hS hZ (c_X12_order l D cI cL ad zz hJ σ45 τ I72 I73 I74 p75) cw_RL_40 (jc_55 cI cL ad σ45 τ) rfl ⟨Nat.le_of_ble_eq_true rfl, Nat.le_of_ble_eq_true rfl⟩ rfl rfl rfl hl.1 rfl (Nat.le_of_ble_eq_true rfl) dL_law_387 ⟨Nat.le_of_ble_eq_true rfl, Nat.le_of_ble_eq_true rfl⟩ (fun r78 σ77 τ77 H locs h77 hP hS => ?_)
    obtain ⟨rfl, f79, f80, I81, I82, I83, p84, w85, h77⟩ := h77
    obtain ⟨i87, i88, i89, w90, w91⟩ : (1 ≤ (σ77 55 10).toInt ∧ (σ77 55 10).toInt ≤ 8) ∧ (1 ≤ (σ77 55 12).toInt ∧ (σ77 55 12).toInt ≤ 12) ∧ (0 ≤ (σ77 55 13).toInt ∧ (σ77 55 13).toInt ≤ 999) ∧ (∀ k : Nat, k < 8 → 0 ≤ (σ77 62 k).toInt ∧ (σ77 62 k).toInt ≤ 3) ∧ (∀ k : Nat, k < 8 → 0 ≤ (σ77 67 k).toInt ∧ (σ77 67 k).toInt ≤ 3) := id I81
    obtain ⟨i92, w93⟩ : (0 ≤ (σ77 55 15).toInt ∧ (σ77 55 15).toInt ≤ 80) ∧ (∀ k : Nat, k < 2 → (-1) ≤ (σ77 65 k).toInt ∧ (σ77 65 k).toInt ≤ 80) := id I82
    obtain ⟨i94, i95, w96⟩ : (0 ≤ (σ77 55 47).toInt ∧ (σ77 55 47).toInt ≤ 12) ∧ ((σ77 55 47).toInt ≤ (σ77 55 12).toInt) ∧ (∀ k : Nat, k < 12 → 0 ≤ (σ77 80 k).toInt ∧ (σ77 80 k).toInt ≤ 3) := id I83
    have z97 : (σ45 55 10).toInt = (σ 55 10).toInt := (congrArg Int32.toInt (show σ45 55 10 = (σ 55 10) from (congrFun (f47 55 (by decide)) 10)))
    have z98 : (σ45 55 12).toInt = (σ 55 12).toInt := (congrArg Int32.toInt (show σ45 55 12 = (σ 55 12) from (congrFun (f47 55 (by decide)) 12)))
    have z99 : (σ45 55 13).toInt = (σ 55 13).toInt := (congrArg Int32.toInt (show σ45 55 13 = (σ 55 13) from (congrFun (f47 55 (by decide)) 13)))
    have z100 : (σ45 55 15).toInt = (σ 55 15).toInt := (congrArg Int32.toInt (show σ45 55 15 = (σ 55 15) from (congrFun (f47 55 (by decide)) 15)))
    rw [show (σ45 55 10).toInt = (σ 55 10).toInt from by omega, show (σ45 55 12).toInt = (σ 55 12).toInt from by omega, show (σ45 55 13).toInt = (σ 55 13).toInt from by omega, show (σ45 55 15).toInt = (σ 55 15).toInt from by omega, show σ45 63 = σ 63 from (f47 63 (by decide)), show σ45 62 = σ 62 from (f47 62 (by decide))] at w85
    rw [show (σ 9 0).toInt = (σ 55 15).toInt from by omega] at w54
    have p101 := hr2 |> fun h => jOrA.det h w54 w85 (by omega) (by omega) (by omega) hr3
    obtain ⟨k102, k103, k104, k105, p101⟩ := p101
    obtain ⟨k106, h77⟩ := h77
    rcases h77 with h107 | h108
    · obtain ⟨q111, k109, k110⟩ := h107
      refine lv_pop hx hb dL_law_390 rfl ?_
      refine lv_goto (tgt := 1357) hx hb dL_law_391 (by decide) ?_
      obtain ⟨x112, ex112⟩ : ∃ y : Int32, y = x0 + 6 := ⟨_, rfl⟩
      have tx112 : x112.toInt = x0.toInt + 6 := (jadd ex112 rfl jz_6 (by omega) (by omega)).trans (by omega)
      refine lv_iinc (v := x112) (lv' := [(3, .int x112), (2, .ref (ad 55)), (1, .ref (ad 0)), (0, .ref b)]) hx hb dL_law_1357 hl (k := 0) rfl (by rw [ex112]; rfl) (by decide) rfl (fun ls hl => ?_)
      refine lv_goto (tgt := 18) hx hb dL_law_1360 (by decide) ?_
      have I113 : jI2 σ77 := jI2_fr ((congrFun (f79 2 (by decide)) 0).trans (congrFun (f47 2 (by decide)) 0)) ((congrFun (f79 2 (by decide)) 1).trans (congrFun (f47 2 (by decide)) 1)) ((congrFun (f79 2 (by decide)) 2).trans (congrFun (f47 2 (by decide)) 2)) ((congrFun (f79 2 (by decide)) 3).trans (congrFun (f47 2 (by decide)) 3)) ((f79 6 (by decide)).trans (f47 6 (by decide))) hI2
      have I114 : jI9 σ77 := jI9_fr (congrFun (f79 9 (by decide)) 0) (f79 10 (by decide)) (f79 11 (by decide)) I51
      have I115 : jI12 σ77 := jI12_fr ((congrFun (f79 12 (by decide)) 0).trans (congrFun (f47 12 (by decide)) 0)) ((f79 13 (by decide)).trans (f47 13 (by decide))) hI12
      have I116 : jI16 σ77 := jI16_fr (congrFun (f79 16 (by decide)) 0) (congrFun (f79 16 (by decide)) 1) (congrFun (f79 16 (by decide)) 2) (f79 17 (by decide)) I52
      have I117 : jI18 σ77 := jI18_fr ((congrFun (f79 18 (by decide)) 0).trans (congrFun (f47 18 (by decide)) 0)) ((f79 19 (by decide)).trans (f47 19 (by decide))) hI18
      have I118 : jI22 σ77 := jI22_fr ((congrFun (f79 22 (by decide)) 0).trans (congrFun (f47 22 (by decide)) 0)) ((f79 23 (by decide)).trans (f47 23 (by decide))) hI22
      have I119 : jI31 σ77 := jI31_fr ((congrFun (f79 31 (by decide)) 8).trans (congrFun (f47 31 (by decide)) 8)) ((f79 33 (by decide)).trans (f47 33 (by decide))) ((f79 36 (by decide)).trans (f47 36 (by decide))) hI31
      have I120 : jI38 σ77 := jI38_fr ((congrFun (f79 38 (by decide)) 0).trans (congrFun (f47 38 (by decide)) 0)) ((congrFun (f79 38 (by decide)) 1).trans (congrFun (f47 38 (by decide)) 1)) ((f79 39 (by decide)).trans (f47 39 (by decide))) hI38
      have I121 : jI43 σ77 := jI43_fr ((congrFun (f79 43 (by decide)) 8).trans (congrFun (f47 43 (by decide)) 8)) hI43
      have I122 : jI47 σ77 := jI47_fr (congrFun (f79 47 (by decide)) 0) (f79 48 (by decide)) (f79 49 (by decide)) I53
      have I123 : jI50 σ77 := jI50_fr ((f79 52 (by decide)).trans (f47 52 (by decide))) hI50
      have I124 : jI101 σ77 := jI101_fr ((f80 4 (by decide)).trans (congrFun (f47 55 (by decide)) 4)) ((f80 5 (by decide)).trans (congrFun (f47 55 (by decide)) 5)) ((f79 56 (by decide)).trans (f47 56 (by decide))) ((f79 57 (by decide)).trans (f47 57 (by decide))) ((f79 58 (by decide)).trans (f47 58 (by decide))) ((f79 59 (by decide)).trans (f47 59 (by decide))) hI101
      have I125 : jI102 σ77 := jI102_fr ((f80 6 (by decide)).trans (congrFun (f47 55 (by decide)) 6)) ((f79 60 (by decide)).trans (f47 60 (by decide))) ((f79 61 (by decide)).trans (f47 61 (by decide))) hI102
      have I126 : jI103 σ77 := jI103_fr ((f80 9 (by decide)).trans (congrFun (f47 55 (by decide)) 9)) hI103
      have I127 : jI106 σ77 := jI106_fr ((f80 32 (by decide)).trans (congrFun (f47 55 (by decide)) 32)) ((f79 70 (by decide)).trans (f47 70 (by decide))) ((f79 71 (by decide)).trans (f47 71 (by decide))) ((f79 72 (by decide)).trans (f47 72 (by decide))) hI106
      have I128 : jI109 σ77 := jI109_fr ((f80 50 (by decide)).trans (congrFun (f47 55 (by decide)) 50)) hI109
      have I129 : jI110 σ77 := jI110_fr ((f79 86 (by decide)).trans (f47 86 (by decide))) ((f79 87 (by decide)).trans (f47 87 (by decide))) hI110
      have I130 : jI111 σ77 := jI111_fr ((f79 79 (by decide)).trans (f47 79 (by decide))) hI111
      have I131 : jI119 σ77 := jI119_fr ((f79 68 (by decide)).trans (f47 68 (by decide))) hI119
      have p132 : jKept σ77 := jKept.fr ((f79 75 (by decide)).trans (f47 75 (by decide))) ((f79 76 (by decide)).trans (f47 76 (by decide))) ((f79 77 (by decide)).trans (f47 77 (by decide))) hs_jKept
      have z133 : (σ77 2 0).toInt = (σ 2 0).toInt := (congrArg Int32.toInt (show σ77 2 0 = (σ 2 0) from ((congrFun (f79 2 (by decide)) 0).trans (congrFun (f47 2 (by decide)) 0))))
      have z134 : (σ77 55 6).toInt = (σ 55 6).toInt := (congrArg Int32.toInt (show σ77 55 6 = (σ 55 6) from ((f80 6 (by decide)).trans (congrFun (f47 55 (by decide)) 6))))
      have z135 : (σ77 2 2).toInt = (σ 2 2).toInt := (congrArg Int32.toInt (show σ77 2 2 = (σ 2 2) from ((congrFun (f79 2 (by decide)) 2).trans (congrFun (f47 2 (by decide)) 2))))
      have z136 : (σ77 55 5).toInt = (σ 55 5).toInt := (congrArg Int32.toInt (show σ77 55 5 = (σ 55 5) from ((f80 5 (by decide)).trans (congrFun (f47 55 (by decide)) 5))))
      have z137 : (σ77 2 3).toInt = (σ 2 3).toInt := (congrArg Int32.toInt (show σ77 2 3 = (σ 2 3) from ((congrFun (f79 2 (by decide)) 3).trans (congrFun (f47 2 (by decide)) 3))))
      have z138 : (σ77 55 4).toInt = (σ 55 4).toInt := (congrArg Int32.toInt (show σ77 55 4 = (σ 55 4) from ((f80 4 (by decide)).trans (congrFun (f47 55 (by decide)) 4))))
      have z139 : (σ77 9 0).toInt = (σ45 9 0).toInt := (congrArg Int32.toInt (show σ77 9 0 = (σ45 9 0) from (congrFun (f79 9 (by decide)) 0)))
      have z140 : (σ77 16 0).toInt = (σ45 16 0).toInt := (congrArg Int32.toInt (show σ77 16 0 = (σ45 16 0) from (congrFun (f79 16 (by decide)) 0)))
      have z141 : (σ77 16 1).toInt = (σ45 16 1).toInt := (congrArg Int32.toInt (show σ77 16 1 = (σ45 16 1) from (congrFun (f79 16 (by decide)) 1)))
      have z142 : (σ77 16 2).toInt = (σ45 16 2).toInt := (congrArg Int32.toInt (show σ77 16 2 = (σ45 16 2) from (congrFun (f79 16 (by decide)) 2)))
      have z143 : (σ77 38 0).toInt = (σ 38 0).toInt := (congrArg Int32.toInt (show σ77 38 0 = (σ 38 0) from ((congrFun (f79 38 (by decide)) 0).trans (congrFun (f47 38 (by decide)) 0))))
      have z144 : (σ77 55 32).toInt = (σ 55 32).toInt := (congrArg Int32.toInt (show σ77 55 32 = (σ 55 32) from ((f80 32 (by decide)).trans (congrFun (f47 55 (by decide)) 32))))
      have z145 : (σ77 47 0).toInt = (σ45 47 0).toInt := (congrArg Int32.toInt (show σ77 47 0 = (σ45 47 0) from (congrFun (f79 47 (by decide)) 0)))
      have z146 : (σ77 55 30).toInt = (σ 55 30).toInt := (congrArg Int32.toInt (show σ77 55 30 = (σ 55 30) from ((f80 30 (by decide)).trans (congrFun (f47 55 (by decide)) 30))))
      have z147 : (σ77 55 31).toInt = (σ 55 31).toInt := (congrArg Int32.toInt (show σ77 55 31 = (σ 55 31) from ((f80 31 (by decide)).trans (congrFun (f47 55 (by decide)) 31))))
      exact ih x112 σ77 τ _ _ ls (by have h9 := tx112; omega) ⟨I113, I114, I115, I116, I117, I118, I119, I120, I121, I122, I123, I124, I125, I126, I81, I82, I127, I83, I128, I129, I130, I131, p132, p84, (by omega), (by omega), (by omega), (by omega), (by omega), (by omega), (by omega), (by omega), (by omega), (by omega), (by omega), (show jNumP (σ77 3) (σ77 56) (σ77 6) (σ77 57) (σ77 7) (σ77 58) (σ77 8) (σ77 59) (σ77 55 6).toInt (σ77 55 4).toInt by rw [show σ77 3 = σ 3 from ((f79 3 (by decide)).trans (f47 3 (by decide))), show σ77 56 = σ 56 from ((f79 56 (by decide)).trans (f47 56 (by decide))), show σ77 6 = σ 6 from ((f79 6 (by decide)).trans (f47 6 (by decide))), show σ77 57 = σ 57 from ((f79 57 (by decide)).trans (f47 57 (by decide))), show σ77 7 = σ 7 from ((f79 7 (by decide)).trans (f47 7 (by decide))), show σ77 58 = σ 58 from ((f79 58 (by decide)).trans (f47 58 (by decide))), show σ77 8 = σ 8 from ((f79 8 (by decide)).trans (f47 8 (by decide))), show σ77 59 = σ 59 from ((f79 59 (by decide)).trans (f47 59 (by decide))), show (σ77 55 6).toInt = (σ 55 6).toInt from by omega, show (σ77 55 4).toInt = (σ 55 4).toInt from by omega]; exact hr0), (show jOvP (σ77 56) (σ77 57) (σ77 58) (σ77 59) (σ77 55 4).toInt by rw [show σ77 56 = σ 56 from ((f79 56 (by decide)).trans (f47 56 (by decide))), show σ77 57 = σ 57 from ((f79 57 (by decide)).trans (f47 57 (by decide))), show σ77 58 = σ 58 from ((f79 58 (by decide)).trans (f47 58 (by decide))), show σ77 59 = σ 59 from ((f79 59 (by decide)).trans (f47 59 (by decide))), show (σ77 55 4).toInt = (σ 55 4).toInt from by omega]; exact hr1), (show jTp (σ77 10) (σ77 63) (σ77 55 15).toInt by rw [show σ77 10 = σ 10 from ((f79 10 (by decide)).trans (f47 10 (by decide))), show σ77 63 = σ 63 from ((f79 63 (by decide)).trans (f47 63 (by decide)))]; exact hr2.le (by omega)), (show jSo (σ77 17) (σ77 62) (σ77 16 0).toInt by rw [show σ77 17 = σ45 17 from (f79 17 (by decide)), show (σ77 16 0).toInt = (σ45 16 0).toInt from by omega]; exact p101), (show jShP (σ77 51) (σ77 52) (σ77 53) (σ77 86) (σ77 87) (σ77 55 32).toInt by rw [show σ77 51 = σ 51 from ((f79 51 (by decide)).trans (f47 51 (by decide))), show σ77 52 = σ 52 from ((f79 52 (by decide)).trans (f47 52 (by decide))), show σ77 53 = σ 53 from ((f79 53 (by decide)).trans (f47 53 (by decide))), show σ77 86 = σ 86 from ((f79 86 (by decide)).trans (f47 86 (by decide))), show σ77 87 = σ 87 from ((f79 87 (by decide)).trans (f47 87 (by decide)))]; exact (hr4.up (by omega) (by omega))), (show jEl (σ77 51) (σ77 52) (τ 54) (τ 88) by rw [show σ77 51 = σ 51 from ((f79 51 (by decide)).trans (f47 51 (by decide))), show σ77 52 = σ 52 from ((f79 52 (by decide)).trans (f47 52 (by decide)))]; exact hr5), (show jByP (σ77 51) (σ77 52) (τ 54) by rw [show σ77 51 = σ 51 from ((f79 51 (by decide)).trans (f47 51 (by decide))), show σ77 52 = σ 52 from ((f79 52 (by decide)).trans (f47 52 (by decide)))]; exact hr6), (show jBk (σ77 48) (σ77 80) (σ77 49) (σ77 81) (σ77 55 47).toInt from (Or.elim (show (σ77 55 47).toInt = (σ 55 47).toInt ∨ (σ77 55 47).toInt ≤ 0 by omega) (fun z => by rw [show σ77 48 = σ 48 from ((f79 48 (by decide)).trans (f47 48 (by decide))), show σ77 49 = σ 49 from ((f79 49 (by decide)).trans (f47 49 (by decide))), show σ77 80 = σ 80 from ((f79 80 (by decide)).trans (f47 80 (by decide))), show σ77 81 = σ 81 from ((f79 81 (by decide)).trans (f47 81 (by decide))), z]; exact hr7) (fun z => jBk.nil z)))⟩ hP hS (lv_sub hl [0, 1, 2, 3] rfl)
    · obtain ⟨q151, k149, k150⟩ := h108
      exact absurd (by omega : False) id
  · obtain ⟨q154, k152, k153⟩ := h68
    refine lv_pop hx hb dL_law_385 rfl ?_
    refine lv_aload_n hx hb dL_law_386 rfl (lv_at hl 1 rfl) ?_
    have I155 : jI104 σ45 := jI104_fr (congrFun (f47 55 (by decide)) 10) (congrFun (f47 55 (by decide)) 12) (congrFun (f47 55 (by decide)) 13) (f47 62 (by decide)) (f47 67 (by decide)) hI104
    have I156 : jI105 σ45 := jI105_fr (congrFun (f47 55 (by decide)) 15) (f47 65 (by decide)) hI105
    have I157 : jI107 σ45 := jI107_fr (congrFun (f47 55 (by decide)) 12) (congrFun (f47 55 (by decide)) 47) (f47 80 (by decide)) hI107
    have p158 : jBook σ45 := jBook.fr (congrFun (f47 55 (by decide)) 47) (congrFun (f47 55 (by decide)) 10) (f47 81 (by decide)) hs_jBook
    have z159 : (σ45 55 47).toInt = (σ 55 47).toInt := (congrArg Int32.toInt (show σ45 55 47 = (σ 55 47) from (congrFun (f47 55 (by decide)) 47)))
    refine jcallV (As := []) (rest := []) ⟨hx, hb, hml, hown, hts⟩ hK hP hA hS hZ (c_X12_order l D cI cL ad zz hJ σ45 τ I155 I156 I157 p158) cw_RL_40 (jc_55 cI cL ad σ45 τ) rfl ⟨Nat.le_of_ble_eq_true rfl, Nat.le_of_ble_eq_true rfl⟩ rfl rfl rfl hl.1 rfl (Nat.le_of_ble_eq_true rfl) dL_law_387 ⟨Nat.le_of_ble_eq_true rfl, Nat.le_of_ble_eq_true rfl⟩ (fun r161 σ160 τ160 H locs h160 hP hS => ?_)
    obtain ⟨rfl, f162, f163, I164, I165, I166, p167, w168, h160⟩ := h160
    obtain ⟨i170, i171, i172, w173, w174⟩ : (1 ≤ (σ160 55 10).toInt ∧ (σ160 55 10).toInt ≤ 8) ∧ (1 ≤ (σ160 55 12).toInt ∧ (σ160 55 12).toInt ≤ 12) ∧ (0 ≤ (σ160 55 13).toInt ∧ (σ160 55 13).toInt ≤ 999) ∧ (∀ k : Nat, k < 8 → 0 ≤ (σ160 62 k).toInt ∧ (σ160 62 k).toInt ≤ 3) ∧ (∀ k : Nat, k < 8 → 0 ≤ (σ160 67 k).toInt ∧ (σ160 67 k).toInt ≤ 3) := id I164
    obtain ⟨i175, w176⟩ : (0 ≤ (σ160 55 15).toInt ∧ (σ160 55 15).toInt ≤ 80) ∧ (∀ k : Nat, k < 2 → (-1) ≤ (σ160 65 k).toInt ∧ (σ160 65 k).toInt ≤ 80) := id I165
    obtain ⟨i177, i178, w179⟩ : (0 ≤ (σ160 55 47).toInt ∧ (σ160 55 47).toInt ≤ 12) ∧ ((σ160 55 47).toInt ≤ (σ160 55 12).toInt) ∧ (∀ k : Nat, k < 12 → 0 ≤ (σ160 80 k).toInt ∧ (σ160 80 k).toInt ≤ 3) := id I166
    have z180 : (σ45 55 10).toInt = (σ 55 10).toInt := (congrArg Int32.toInt (show σ45 55 10 = (σ 55 10) from (congrFun (f47 55 (by decide)) 10)))
    have z181 : (σ45 55 12).toInt = (σ 55 12).toInt := (congrArg Int32.toInt (show σ45 55 12 = (σ 55 12) from (congrFun (f47 55 (by decide)) 12)))
    have z182 : (σ45 55 13).toInt = (σ 55 13).toInt := (congrArg Int32.toInt (show σ45 55 13 = (σ 55 13) from (congrFun (f47 55 (by decide)) 13)))
    have z183 : (σ45 55 15).toInt = (σ 55 15).toInt := (congrArg Int32.toInt (show σ45 55 15 = (σ 55 15) from (congrFun (f47 55 (by decide)) 15)))
    rw [show (σ45 55 10).toInt = (σ 55 10).toInt from by omega, show (σ45 55 12).toInt = (σ 55 12).toInt from by omega, show (σ45 55 13).toInt = (σ 55 13).toInt from by omega, show (σ45 55 15).toInt = (σ 55 15).toInt from by omega, show σ45 63 = σ 63 from (f47 63 (by decide)), show σ45 62 = σ 62 from (f47 62 (by decide))] at w168
    rw [show (σ 9 0).toInt = (σ 55 15).toInt from by omega] at w54
    have p184 := hr2 |> fun h => jOrA.det h w54 w168 (by omega) (by omega) (by omega) hr3
    obtain ⟨k185, k186, k187, k188, p184⟩ := p184
    obtain ⟨k189, h160⟩ := h160
    rcases h160 with h190 | h191
    · obtain ⟨q194, k192, k193⟩ := h190
      exact absurd (by omega : False) id
    · obtain ⟨q197, k195, k196⟩ := h191
      refine lv_pop hx hb dL_law_390 rfl ?_
      refine lv_goto (tgt := 1357) hx hb dL_law_391 (by decide) ?_
      obtain ⟨x198, ex198⟩ : ∃ y : Int32, y = x0 + 6 := ⟨_, rfl⟩
      have tx198 : x198.toInt = x0.toInt + 6 := (jadd ex198 rfl jz_6 (by omega) (by omega)).trans (by omega)
      refine lv_iinc (v := x198) (lv' := [(3, .int x198), (2, .ref (ad 55)), (1, .ref (ad 0)), (0, .ref b)]) hx hb dL_law_1357 hl (k := 0) rfl (by rw [ex198]; rfl) (by decide) rfl (fun ls hl => ?_)
      refine lv_goto (tgt := 18) hx hb dL_law_1360 (by decide) ?_
      have I199 : jI2 σ160 := jI2_fr ((congrFun (f162 2 (by decide)) 0).trans (congrFun (f47 2 (by decide)) 0)) ((congrFun (f162 2 (by decide)) 1).trans (congrFun (f47 2 (by decide)) 1)) ((congrFun (f162 2 (by decide)) 2).trans (congrFun (f47 2 (by decide)) 2)) ((congrFun (f162 2 (by decide)) 3).trans (congrFun (f47 2 (by decide)) 3)) ((f162 6 (by decide)).trans (f47 6 (by decide))) hI2
      have I200 : jI9 σ160 := jI9_fr (congrFun (f162 9 (by decide)) 0) (f162 10 (by decide)) (f162 11 (by decide)) I51
      have I201 : jI12 σ160 := jI12_fr ((congrFun (f162 12 (by decide)) 0).trans (congrFun (f47 12 (by decide)) 0)) ((f162 13 (by decide)).trans (f47 13 (by decide))) hI12
      have I202 : jI16 σ160 := jI16_fr (congrFun (f162 16 (by decide)) 0) (congrFun (f162 16 (by decide)) 1) (congrFun (f162 16 (by decide)) 2) (f162 17 (by decide)) I52
      have I203 : jI18 σ160 := jI18_fr ((congrFun (f162 18 (by decide)) 0).trans (congrFun (f47 18 (by decide)) 0)) ((f162 19 (by decide)).trans (f47 19 (by decide))) hI18
      have I204 : jI22 σ160 := jI22_fr ((congrFun (f162 22 (by decide)) 0).trans (congrFun (f47 22 (by decide)) 0)) ((f162 23 (by decide)).trans (f47 23 (by decide))) hI22
      have I205 : jI31 σ160 := jI31_fr ((congrFun (f162 31 (by decide)) 8).trans (congrFun (f47 31 (by decide)) 8)) ((f162 33 (by decide)).trans (f47 33 (by decide))) ((f162 36 (by decide)).trans (f47 36 (by decide))) hI31
      have I206 : jI38 σ160 := jI38_fr ((congrFun (f162 38 (by decide)) 0).trans (congrFun (f47 38 (by decide)) 0)) ((congrFun (f162 38 (by decide)) 1).trans (congrFun (f47 38 (by decide)) 1)) ((f162 39 (by decide)).trans (f47 39 (by decide))) hI38
      have I207 : jI43 σ160 := jI43_fr ((congrFun (f162 43 (by decide)) 8).trans (congrFun (f47 43 (by decide)) 8)) hI43
      have I208 : jI47 σ160 := jI47_fr (congrFun (f162 47 (by decide)) 0) (f162 48 (by decide)) (f162 49 (by decide)) I53
      have I209 : jI50 σ160 := jI50_fr ((f162 52 (by decide)).trans (f47 52 (by decide))) hI50
      have I210 : jI101 σ160 := jI101_fr ((f163 4 (by decide)).trans (congrFun (f47 55 (by decide)) 4)) ((f163 5 (by decide)).trans (congrFun (f47 55 (by decide)) 5)) ((f162 56 (by decide)).trans (f47 56 (by decide))) ((f162 57 (by decide)).trans (f47 57 (by decide))) ((f162 58 (by decide)).trans (f47 58 (by decide))) ((f162 59 (by decide)).trans (f47 59 (by decide))) hI101
      have I211 : jI102 σ160 := jI102_fr ((f163 6 (by decide)).trans (congrFun (f47 55 (by decide)) 6)) ((f162 60 (by decide)).trans (f47 60 (by decide))) ((f162 61 (by decide)).trans (f47 61 (by decide))) hI102
      have I212 : jI103 σ160 := jI103_fr ((f163 9 (by decide)).trans (congrFun (f47 55 (by decide)) 9)) hI103
      have I213 : jI106 σ160 := jI106_fr ((f163 32 (by decide)).trans (congrFun (f47 55 (by decide)) 32)) ((f162 70 (by decide)).trans (f47 70 (by decide))) ((f162 71 (by decide)).trans (f47 71 (by decide))) ((f162 72 (by decide)).trans (f47 72 (by decide))) hI106
      have I214 : jI109 σ160 := jI109_fr ((f163 50 (by decide)).trans (congrFun (f47 55 (by decide)) 50)) hI109
      have I215 : jI110 σ160 := jI110_fr ((f162 86 (by decide)).trans (f47 86 (by decide))) ((f162 87 (by decide)).trans (f47 87 (by decide))) hI110
      have I216 : jI111 σ160 := jI111_fr ((f162 79 (by decide)).trans (f47 79 (by decide))) hI111
      have I217 : jI119 σ160 := jI119_fr ((f162 68 (by decide)).trans (f47 68 (by decide))) hI119
      have p218 : jKept σ160 := jKept.fr ((f162 75 (by decide)).trans (f47 75 (by decide))) ((f162 76 (by decide)).trans (f47 76 (by decide))) ((f162 77 (by decide)).trans (f47 77 (by decide))) hs_jKept
      have z219 : (σ160 2 0).toInt = (σ 2 0).toInt := (congrArg Int32.toInt (show σ160 2 0 = (σ 2 0) from ((congrFun (f162 2 (by decide)) 0).trans (congrFun (f47 2 (by decide)) 0))))
      have z220 : (σ160 55 6).toInt = (σ 55 6).toInt := (congrArg Int32.toInt (show σ160 55 6 = (σ 55 6) from ((f163 6 (by decide)).trans (congrFun (f47 55 (by decide)) 6))))
      have z221 : (σ160 2 2).toInt = (σ 2 2).toInt := (congrArg Int32.toInt (show σ160 2 2 = (σ 2 2) from ((congrFun (f162 2 (by decide)) 2).trans (congrFun (f47 2 (by decide)) 2))))
      have z222 : (σ160 55 5).toInt = (σ 55 5).toInt := (congrArg Int32.toInt (show σ160 55 5 = (σ 55 5) from ((f163 5 (by decide)).trans (congrFun (f47 55 (by decide)) 5))))
      have z223 : (σ160 2 3).toInt = (σ 2 3).toInt := (congrArg Int32.toInt (show σ160 2 3 = (σ 2 3) from ((congrFun (f162 2 (by decide)) 3).trans (congrFun (f47 2 (by decide)) 3))))
      have z224 : (σ160 55 4).toInt = (σ 55 4).toInt := (congrArg Int32.toInt (show σ160 55 4 = (σ 55 4) from ((f163 4 (by decide)).trans (congrFun (f47 55 (by decide)) 4))))
      have z225 : (σ160 9 0).toInt = (σ45 9 0).toInt := (congrArg Int32.toInt (show σ160 9 0 = (σ45 9 0) from (congrFun (f162 9 (by decide)) 0)))
      have z226 : (σ160 16 0).toInt = (σ45 16 0).toInt := (congrArg Int32.toInt (show σ160 16 0 = (σ45 16 0) from (congrFun (f162 16 (by decide)) 0)))
      have z227 : (σ160 16 1).toInt = (σ45 16 1).toInt := (congrArg Int32.toInt (show σ160 16 1 = (σ45 16 1) from (congrFun (f162 16 (by decide)) 1)))
      have z228 : (σ160 16 2).toInt = (σ45 16 2).toInt := (congrArg Int32.toInt (show σ160 16 2 = (σ45 16 2) from (congrFun (f162 16 (by decide)) 2)))
      have z229 : (σ160 38 0).toInt = (σ 38 0).toInt := (congrArg Int32.toInt (show σ160 38 0 = (σ 38 0) from ((congrFun (f162 38 (by decide)) 0).trans (congrFun (f47 38 (by decide)) 0))))
      have z230 : (σ160 55 32).toInt = (σ 55 32).toInt := (congrArg Int32.toInt (show σ160 55 32 = (σ 55 32) from ((f163 32 (by decide)).trans (congrFun (f47 55 (by decide)) 32))))
      have z231 : (σ160 47 0).toInt = (σ45 47 0).toInt := (congrArg Int32.toInt (show σ160 47 0 = (σ45 47 0) from (congrFun (f162 47 (by decide)) 0)))
      have z232 : (σ160 55 30).toInt = (σ 55 30).toInt := (congrArg Int32.toInt (show σ160 55 30 = (σ 55 30) from ((f163 30 (by decide)).trans (congrFun (f47 55 (by decide)) 30))))
      have z233 : (σ160 55 31).toInt = (σ 55 31).toInt := (congrArg Int32.toInt (show σ160 55 31 = (σ 55 31) from ((f163 31 (by decide)).trans (congrFun (f47 55 (by decide)) 31))))
      exact ih x198 σ160 τ _ _ ls (by have h9 := tx198; omega) ⟨I199, I200, I201, I202, I203, I204, I205, I206, I207, I208, I209, I210, I211, I212, I164, I165, I213, I166, I214, I215, I216, I217, p218, p167, (by omega), (by omega), (by omega), (by omega), (by omega), (by omega), (by omega), (by omega), (by omega), (by omega), (by omega), (show jNumP (σ160 3) (σ160 56) (σ160 6) (σ160 57) (σ160 7) (σ160 58) (σ160 8) (σ160 59) (σ160 55 6).toInt (σ160 55 4).toInt by rw [show σ160 3 = σ 3 from ((f162 3 (by decide)).trans (f47 3 (by decide))), show σ160 56 = σ 56 from ((f162 56 (by decide)).trans (f47 56 (by decide))), show σ160 6 = σ 6 from ((f162 6 (by decide)).trans (f47 6 (by decide))), show σ160 57 = σ 57 from ((f162 57 (by decide)).trans (f47 57 (by decide))), show σ160 7 = σ 7 from ((f162 7 (by decide)).trans (f47 7 (by decide))), show σ160 58 = σ 58 from ((f162 58 (by decide)).trans (f47 58 (by decide))), show σ160 8 = σ 8 from ((f162 8 (by decide)).trans (f47 8 (by decide))), show σ160 59 = σ 59 from ((f162 59 (by decide)).trans (f47 59 (by decide))), show (σ160 55 6).toInt = (σ 55 6).toInt from by omega, show (σ160 55 4).toInt = (σ 55 4).toInt from by omega]; exact hr0), (show jOvP (σ160 56) (σ160 57) (σ160 58) (σ160 59) (σ160 55 4).toInt by rw [show σ160 56 = σ 56 from ((f162 56 (by decide)).trans (f47 56 (by decide))), show σ160 57 = σ 57 from ((f162 57 (by decide)).trans (f47 57 (by decide))), show σ160 58 = σ 58 from ((f162 58 (by decide)).trans (f47 58 (by decide))), show σ160 59 = σ 59 from ((f162 59 (by decide)).trans (f47 59 (by decide))), show (σ160 55 4).toInt = (σ 55 4).toInt from by omega]; exact hr1), (show jTp (σ160 10) (σ160 63) (σ160 55 15).toInt by rw [show σ160 10 = σ 10 from ((f162 10 (by decide)).trans (f47 10 (by decide))), show σ160 63 = σ 63 from ((f162 63 (by decide)).trans (f47 63 (by decide)))]; exact hr2.le (by omega)), (show jSo (σ160 17) (σ160 62) (σ160 16 0).toInt by rw [show σ160 17 = σ45 17 from (f162 17 (by decide)), show (σ160 16 0).toInt = (σ45 16 0).toInt from by omega]; exact p184), (show jShP (σ160 51) (σ160 52) (σ160 53) (σ160 86) (σ160 87) (σ160 55 32).toInt by rw [show σ160 51 = σ 51 from ((f162 51 (by decide)).trans (f47 51 (by decide))), show σ160 52 = σ 52 from ((f162 52 (by decide)).trans (f47 52 (by decide))), show σ160 53 = σ 53 from ((f162 53 (by decide)).trans (f47 53 (by decide))), show σ160 86 = σ 86 from ((f162 86 (by decide)).trans (f47 86 (by decide))), show σ160 87 = σ 87 from ((f162 87 (by decide)).trans (f47 87 (by decide)))]; exact (hr4.up (by omega) (by omega))), (show jEl (σ160 51) (σ160 52) (τ 54) (τ 88) by rw [show σ160 51 = σ 51 from ((f162 51 (by decide)).trans (f47 51 (by decide))), show σ160 52 = σ 52 from ((f162 52 (by decide)).trans (f47 52 (by decide)))]; exact hr5), (show jByP (σ160 51) (σ160 52) (τ 54) by rw [show σ160 51 = σ 51 from ((f162 51 (by decide)).trans (f47 51 (by decide))), show σ160 52 = σ 52 from ((f162 52 (by decide)).trans (f47 52 (by decide)))]; exact hr6), (jBk.nil (by omega))⟩ hP hS (lv_sub hl [0, 1, 2, 3] rfl)
set_option maxHeartbeats 4000000 in
set_option maxRecDepth 100000 in
theorem law_case_6 {p : Program} {e : Env} {s : State} {m : MethodId} {below : List Frame} {meth : Method} {c : Code} (l : Launch) {b L : Nat} {xs : Nat → Int32} {D : va_G} {cI cL : ClassId} {ad zz : Nat → Nat} (C0 : lw_At p s m meth c b L xs) (hJ : jD ad) (hA : ∀ q, jA ad q → s.heap.size ≤ q) (hK : jK D cI cL s) (hZ : jZ zz (fun q : Nat => s.heap.size ≤ q) s s.heap) {x0 : Int32} (hx0 : 0 ≤ x0.toInt) (hxL : x0.toInt + 6 ≤ (L : Int)) (hL : L ≤ 384) {σ : Nat → Nat → Int32} {τ : Nat → Nat → Int64} {H : Heap} {locs : List Loc} (hS : va_S (fun q : Nat => s.heap.size ≤ q) s.heap H locs) {ls : Array Slot} (hAll : jAll σ τ) (hP : jH D cI cL ad σ τ H) (hl : lv_has ls 4 [(3, .int x0), (2, .ref (ad 55)), (1, .ref (ad 0)), (0, .ref b)]) (ih : ∀ (x1 : Int32) (σ : Nat → Nat → Int32) (τ : Nat → Nat → Int64) (H : Heap) (locs : List Loc) (ls : Array Slot), x1.toInt = x0.toInt + 6 → jAll σ τ → jH D cI cL ad σ τ H → va_S (fun q : Nat => s.heap.size ≤ q) s.heap H locs → lv_has ls 4 [(3, .int x1), (2, .ref (ad 55)), (1, .ref (ad 0)), (0, .ref b)] → W p l e room_1 s m #[Value.ref b] below meth c H locs 90 348600 (lw_Z below #[Value.ref b] s) (F0 m 18 ls [])) : W p l e room_1 s m #[Value.ref b] below meth c H locs 90 348600 (lw_Z below #[Value.ref b] s) (F0 m 394 ls []) := by
  obtain ⟨hx, hb, hr, hml, hown, hts0, hX, hbl, hlocks, hgv⟩ := C0
  have hts : ∀ w ∈ wsL_law, w.before #[Value.ref b] s = true := fun w h => hts0 w (wsL_law_in w h)
  have hbA : ¬ (fun q : Nat => s.heap.size ≤ q) b := Nat.not_le.mpr hbl
  have hown : s.vm.findClass RL = some m.cls := hown
  obtain ⟨hI2, hI9, hI12, hI16, hI18, hI22, hI31, hI38, hI43, hI47, hI50, hI101, hI102, hI103, hI104, hI105, hI106, hI107, hI109, hI110, hI111, hI119, hs_jKept, hs_jBook, ht0, ht1, ht2, ht3, ht4, ht5, ht6, ht7, ht8, ht9, ht10, hr0, hr1, hr2, hr3, hr4, hr5, hr6, hr7⟩ := hAll
  have hL9 : (L : Int) ≤ 384 := by omega
  obtain ⟨i1, i2, i3, i4, i5, w6⟩ : (0 ≤ (σ 2 0).toInt ∧ (σ 2 0).toInt ≤ 4) ∧ (0 ≤ (σ 2 1).toInt ∧ (σ 2 1).toInt ≤ 3) ∧ (0 ≤ (σ 2 2).toInt) ∧ (0 ≤ (σ 2 3).toInt) ∧ ((σ 2 2).toInt + (σ 2 3).toInt ≤ 40) ∧ (∀ k : Nat, k < 40 → 0 ≤ (σ 6 k).toInt ∧ (σ 6 k).toInt ≤ 67) := id hI2
  obtain ⟨i7, w8, w9⟩ : (0 ≤ (σ 9 0).toInt ∧ (σ 9 0).toInt ≤ 80) ∧ (∀ k : Nat, k < 80 → 0 ≤ (σ 10 k).toInt ∧ (σ 10 k).toInt ≤ 255) ∧ (∀ k : Nat, k < 8 → 0 ≤ (σ 11 k).toInt ∧ (σ 11 k).toInt ≤ 3) := id hI9
  obtain ⟨i10, i11, i12, w13⟩ : (1 ≤ (σ 16 0).toInt ∧ (σ 16 0).toInt ≤ 8) ∧ (1 ≤ (σ 16 1).toInt ∧ (σ 16 1).toInt ≤ 12) ∧ (0 ≤ (σ 16 2).toInt ∧ (σ 16 2).toInt ≤ 999) ∧ (∀ k : Nat, k < 8 → 0 ≤ (σ 17 k).toInt ∧ (σ 17 k).toInt ≤ 3) := id hI16
  obtain ⟨i14, i15, w16⟩ : (0 ≤ (σ 38 0).toInt ∧ (σ 38 0).toInt ≤ 20) ∧ (0 ≤ (σ 38 1).toInt ∧ (σ 38 1).toInt ≤ 1000) ∧ (∀ k : Nat, k < 20 → 0 ≤ (σ 39 k).toInt ∧ (σ 39 k).toInt ≤ 6) := id hI38
  obtain ⟨i17, w18, w19⟩ : (0 ≤ (σ 47 0).toInt ∧ (σ 47 0).toInt ≤ 12) ∧ (∀ k : Nat, k < 12 → 0 ≤ (σ 48 k).toInt ∧ (σ 48 k).toInt ≤ 3) ∧ (∀ k : Nat, k < 12 → 0 ≤ (σ 49 k).toInt ∧ (σ 49 k).toInt ≤ 1) := id hI47
  have w20 : ∀ k : Nat, k < 6 → 0 ≤ (σ 52 k).toInt ∧ (σ 52 k).toInt ≤ 60 := hI50
  obtain ⟨i21, i22, i23, w24, w25, w26, w27⟩ : (0 ≤ (σ 55 5).toInt) ∧ ((σ 55 5).toInt ≤ (σ 55 4).toInt) ∧ ((σ 55 4).toInt ≤ 40) ∧ (∀ k : Nat, k < 68 → (-200) ≤ (σ 56 k).toInt ∧ (σ 56 k).toInt ≤ 500) ∧ (∀ k : Nat, k < 40 → 0 ≤ (σ 57 k).toInt ∧ (σ 57 k).toInt ≤ 67) ∧ (∀ k : Nat, k < 40 → (-200) ≤ (σ 58 k).toInt ∧ (σ 58 k).toInt ≤ 500) ∧ (∀ k : Nat, k < 40 → (-200) ≤ (σ 59 k).toInt ∧ (σ 59 k).toInt ≤ 500) := id hI101
  obtain ⟨i28, w29, w30⟩ : (0 ≤ (σ 55 6).toInt ∧ (σ 55 6).toInt ≤ 4) ∧ (∀ k : Nat, k < 4 → 0 ≤ (σ 60 k).toInt ∧ (σ 60 k).toInt ≤ 50) ∧ (∀ k : Nat, k < 4 → 0 ≤ (σ 61 k).toInt ∧ (σ 61 k).toInt ≤ 20) := id hI102
  obtain ⟨i31, i32, i33, w34, w35⟩ : (1 ≤ (σ 55 10).toInt ∧ (σ 55 10).toInt ≤ 8) ∧ (1 ≤ (σ 55 12).toInt ∧ (σ 55 12).toInt ≤ 12) ∧ (0 ≤ (σ 55 13).toInt ∧ (σ 55 13).toInt ≤ 999) ∧ (∀ k : Nat, k < 8 → 0 ≤ (σ 62 k).toInt ∧ (σ 62 k).toInt ≤ 3) ∧ (∀ k : Nat, k < 8 → 0 ≤ (σ 67 k).toInt ∧ (σ 67 k).toInt ≤ 3) := id hI104
  obtain ⟨i36, w37⟩ : (0 ≤ (σ 55 15).toInt ∧ (σ 55 15).toInt ≤ 80) ∧ (∀ k : Nat, k < 2 → (-1) ≤ (σ 65 k).toInt ∧ (σ 65 k).toInt ≤ 80) := id hI105
  obtain ⟨i38, w39, w40, w41⟩ : (0 ≤ (σ 55 32).toInt ∧ (σ 55 32).toInt ≤ 20) ∧ (∀ k : Nat, k < 20 → 0 ≤ (σ 70 k).toInt ∧ (σ 70 k).toInt ≤ 6) ∧ (∀ k : Nat, k < 20 → 0 ≤ (σ 71 k).toInt ∧ (σ 71 k).toInt ≤ 8) ∧ (∀ k : Nat, k < 160 → 0 ≤ (σ 72 k).toInt ∧ (σ 72 k).toInt ≤ 3) := id hI106
  obtain ⟨i42, i43, w44⟩ : (0 ≤ (σ 55 47).toInt ∧ (σ 55 47).toInt ≤ 12) ∧ ((σ 55 47).toInt ≤ (σ 55 12).toInt) ∧ (∀ k : Nat, k < 12 → 0 ≤ (σ 80 k).toInt ∧ (σ 80 k).toInt ≤ 3) := id hI107
  refine lv_aload_n hx hb dL_law_394 rfl (lv_at hl 2 rfl) ?_
  refine lv_aload_n hx hb dL_law_395 rfl (lv_at hl 3 rfl) ?_
  refine lv_iload_n hx hb dL_law_396 rfl (lv_at hl 0 rfl) ?_
  refine lv_iconst (v := 1) hx hb dL_law_397 (by decide) ?_
  have g45 := jrg (rfl : x0.toInt = x0.toInt)
  refine lv_iadd hx hb dL_law_398 ?_
  refine lv_topi (fun x46 ex46 => ?_)
  have tx46 : x46.toInt = x0.toInt + 1 := (jadd ex46 rfl jz_1 (by omega) (by omega)).trans (by omega)
  refine va_sld hx hb hX hbl hbA hS (jin tx46 (by omega) (by omega)) dL_law_399 ?_
  have g47 := jrg (rfl : (xs x46.toNatClampNeg).toInt = (xs x46.toNatClampNeg).toInt)
  refine jcallV (As := [.int (xs x46.toNatClampNeg)]) (rest := []) ⟨hx, hb, hml, hown, hts⟩ hK hP hA hS hZ (c_X11_text l D cI cL ad zz hJ σ τ (xs x46.toNatClampNeg) ((xs x46.toNatClampNeg).toInt) rfl hI9 hI12 hI18 hI22) cw_RL_41 (jc_0 cI cL ad σ τ) rfl ⟨Nat.le_of_ble_eq_true rfl, Nat.le_of_ble_eq_true rfl⟩ rfl rfl rfl hl.1 rfl (Nat.le_of_ble_eq_true rfl) dL_law_400 ⟨Nat.le_of_ble_eq_true rfl, Nat.le_of_ble_eq_true rfl⟩ (fun r49 σ48 τ48 H locs h48 hP hS => ?_)
  obtain ⟨rfl, f50, f51, f52, f53, f54, f55, I56, I57, I58, I59, h48⟩ := h48
  obtain ⟨i61, w62, w63⟩ : (0 ≤ (σ48 9 0).toInt ∧ (σ48 9 0).toInt ≤ 80) ∧ (∀ k : Nat, k < 80 → 0 ≤ (σ48 10 k).toInt ∧ (σ48 10 k).toInt ≤ 255) ∧ (∀ k : Nat, k < 8 → 0 ≤ (σ48 11 k).toInt ∧ (σ48 11 k).toInt ≤ 3) := id I56
  obtain ⟨k64, h48⟩ := h48
  refine lv_pop hx hb dL_law_403 rfl ?_
  refine lv_aload_n hx hb dL_law_404 rfl (lv_at hl 1 rfl) ?_
  refine lv_aload_n hx hb dL_law_405 rfl (lv_at hl 3 rfl) ?_
  refine lv_iload_n hx hb dL_law_406 rfl (lv_at hl 0 rfl) ?_
  refine lv_iconst (v := 1) hx hb dL_law_407 (by decide) ?_
  refine lv_iadd hx hb dL_law_408 ?_
  refine jtopr ex46.symm ?_
  refine va_sld hx hb hX hbl hbA hS (jin tx46 (by omega) (by omega)) dL_law_409 ?_
  have I65 : jI105 σ48 := jI105_fr (congrFun (f50 55 (by decide)) 15) (f50 65 (by decide)) hI105
  have z66 : (σ48 55 15).toInt = (σ 55 15).toInt := (congrArg Int32.toInt (show σ48 55 15 = (σ 55 15) from (congrFun (f50 55 (by decide)) 15)))
  refine jcallV (As := [.int (xs x46.toNatClampNeg)]) (rest := []) ⟨hx, hb, hml, hown, hts⟩ hK hP hA hS hZ (c_X12_text l D cI cL ad zz hJ σ48 τ (xs x46.toNatClampNeg) ((xs x46.toNatClampNeg).toInt) rfl I65) cw_RL_44 (jc_55 cI cL ad σ48 τ) rfl ⟨Nat.le_of_ble_eq_true rfl, Nat.le_of_ble_eq_true rfl⟩ rfl rfl rfl hl.1 rfl (Nat.le_of_ble_eq_true rfl) dL_law_410 ⟨Nat.le_of_ble_eq_true rfl, Nat.le_of_ble_eq_true rfl⟩ (fun r68 σ67 τ67 H locs h67 hP hS => ?_)
  obtain ⟨rfl, f69, f70, I71, h67⟩ := h67
  obtain ⟨i73, w74⟩ : (0 ≤ (σ67 55 15).toInt ∧ (σ67 55 15).toInt ≤ 80) ∧ (∀ k : Nat, k < 2 → (-1) ≤ (σ67 65 k).toInt ∧ (σ67 65 k).toInt ≤ 80) := id I71
  obtain ⟨k75, h67⟩ := h67
  refine lv_pop hx hb dL_law_413 rfl ?_
  refine lv_goto (tgt := 1357) hx hb dL_law_414 (by decide) ?_
  obtain ⟨x76, ex76⟩ : ∃ y : Int32, y = x0 + 6 := ⟨_, rfl⟩
  have tx76 : x76.toInt = x0.toInt + 6 := (jadd ex76 rfl jz_6 (by omega) (by omega)).trans (by omega)
  refine lv_iinc (v := x76) (lv' := [(3, .int x76), (2, .ref (ad 55)), (1, .ref (ad 0)), (0, .ref b)]) hx hb dL_law_1357 hl (k := 0) rfl (by rw [ex76]; rfl) (by decide) rfl (fun ls hl => ?_)
  refine lv_goto (tgt := 18) hx hb dL_law_1360 (by decide) ?_
  have I77 : jI2 σ67 := jI2_fr ((congrFun (f69 2 (by decide)) 0).trans (congrFun (f50 2 (by decide)) 0)) ((congrFun (f69 2 (by decide)) 1).trans (congrFun (f50 2 (by decide)) 1)) ((congrFun (f69 2 (by decide)) 2).trans (congrFun (f50 2 (by decide)) 2)) ((congrFun (f69 2 (by decide)) 3).trans (congrFun (f50 2 (by decide)) 3)) ((f69 6 (by decide)).trans (f50 6 (by decide))) hI2
  have I78 : jI9 σ67 := jI9_fr (congrFun (f69 9 (by decide)) 0) (f69 10 (by decide)) (f69 11 (by decide)) I56
  have I79 : jI12 σ67 := jI12_fr (congrFun (f69 12 (by decide)) 0) (f69 13 (by decide)) I57
  have I80 : jI16 σ67 := jI16_fr ((congrFun (f69 16 (by decide)) 0).trans (congrFun (f50 16 (by decide)) 0)) ((congrFun (f69 16 (by decide)) 1).trans (congrFun (f50 16 (by decide)) 1)) ((congrFun (f69 16 (by decide)) 2).trans (congrFun (f50 16 (by decide)) 2)) ((f69 17 (by decide)).trans (f50 17 (by decide))) hI16
  have I81 : jI18 σ67 := jI18_fr (congrFun (f69 18 (by decide)) 0) (f69 19 (by decide)) I58
  have I82 : jI22 σ67 := jI22_fr (congrFun (f69 22 (by decide)) 0) (f69 23 (by decide)) I59
  have I83 : jI31 σ67 := jI31_fr ((congrFun (f69 31 (by decide)) 8).trans (congrFun (f50 31 (by decide)) 8)) ((f69 33 (by decide)).trans (f50 33 (by decide))) ((f69 36 (by decide)).trans (f50 36 (by decide))) hI31
  have I84 : jI38 σ67 := jI38_fr ((congrFun (f69 38 (by decide)) 0).trans (congrFun (f50 38 (by decide)) 0)) ((congrFun (f69 38 (by decide)) 1).trans (congrFun (f50 38 (by decide)) 1)) ((f69 39 (by decide)).trans (f50 39 (by decide))) hI38
  have I85 : jI43 σ67 := jI43_fr ((congrFun (f69 43 (by decide)) 8).trans (congrFun (f50 43 (by decide)) 8)) hI43
  have I86 : jI47 σ67 := jI47_fr ((congrFun (f69 47 (by decide)) 0).trans (congrFun (f50 47 (by decide)) 0)) ((f69 48 (by decide)).trans (f50 48 (by decide))) ((f69 49 (by decide)).trans (f50 49 (by decide))) hI47
  have I87 : jI50 σ67 := jI50_fr ((f69 52 (by decide)).trans (f50 52 (by decide))) hI50
  have I88 : jI101 σ67 := jI101_fr ((f70 4 (by decide)).trans (congrFun (f50 55 (by decide)) 4)) ((f70 5 (by decide)).trans (congrFun (f50 55 (by decide)) 5)) ((f69 56 (by decide)).trans (f50 56 (by decide))) ((f69 57 (by decide)).trans (f50 57 (by decide))) ((f69 58 (by decide)).trans (f50 58 (by decide))) ((f69 59 (by decide)).trans (f50 59 (by decide))) hI101
  have I89 : jI102 σ67 := jI102_fr ((f70 6 (by decide)).trans (congrFun (f50 55 (by decide)) 6)) ((f69 60 (by decide)).trans (f50 60 (by decide))) ((f69 61 (by decide)).trans (f50 61 (by decide))) hI102
  have I90 : jI103 σ67 := jI103_fr ((f70 9 (by decide)).trans (congrFun (f50 55 (by decide)) 9)) hI103
  have I91 : jI104 σ67 := jI104_fr ((f70 10 (by decide)).trans (congrFun (f50 55 (by decide)) 10)) ((f70 12 (by decide)).trans (congrFun (f50 55 (by decide)) 12)) ((f70 13 (by decide)).trans (congrFun (f50 55 (by decide)) 13)) ((f69 62 (by decide)).trans (f50 62 (by decide))) ((f69 67 (by decide)).trans (f50 67 (by decide))) hI104
  have I92 : jI106 σ67 := jI106_fr ((f70 32 (by decide)).trans (congrFun (f50 55 (by decide)) 32)) ((f69 70 (by decide)).trans (f50 70 (by decide))) ((f69 71 (by decide)).trans (f50 71 (by decide))) ((f69 72 (by decide)).trans (f50 72 (by decide))) hI106
  have I93 : jI107 σ67 := jI107_fr ((f70 12 (by decide)).trans (congrFun (f50 55 (by decide)) 12)) ((f70 47 (by decide)).trans (congrFun (f50 55 (by decide)) 47)) ((f69 80 (by decide)).trans (f50 80 (by decide))) hI107
  have I94 : jI109 σ67 := jI109_fr ((f70 50 (by decide)).trans (congrFun (f50 55 (by decide)) 50)) hI109
  have I95 : jI110 σ67 := jI110_fr ((f69 86 (by decide)).trans (f50 86 (by decide))) ((f69 87 (by decide)).trans (f50 87 (by decide))) hI110
  have I96 : jI111 σ67 := jI111_fr ((f69 79 (by decide)).trans (f50 79 (by decide))) hI111
  have I97 : jI119 σ67 := jI119_fr ((f69 68 (by decide)).trans (f50 68 (by decide))) hI119
  have p98 : jKept σ67 := jKept.fr ((f69 75 (by decide)).trans (f50 75 (by decide))) ((f69 76 (by decide)).trans (f50 76 (by decide))) ((f69 77 (by decide)).trans (f50 77 (by decide))) hs_jKept
  have p99 : jBook σ67 := jBook.fr ((f70 47 (by decide)).trans (congrFun (f50 55 (by decide)) 47)) ((f70 10 (by decide)).trans (congrFun (f50 55 (by decide)) 10)) ((f69 81 (by decide)).trans (f50 81 (by decide))) hs_jBook
  have z100 : (σ67 2 0).toInt = (σ 2 0).toInt := (congrArg Int32.toInt (show σ67 2 0 = (σ 2 0) from ((congrFun (f69 2 (by decide)) 0).trans (congrFun (f50 2 (by decide)) 0))))
  have z101 : (σ67 55 6).toInt = (σ 55 6).toInt := (congrArg Int32.toInt (show σ67 55 6 = (σ 55 6) from ((f70 6 (by decide)).trans (congrFun (f50 55 (by decide)) 6))))
  have z102 : (σ67 2 2).toInt = (σ 2 2).toInt := (congrArg Int32.toInt (show σ67 2 2 = (σ 2 2) from ((congrFun (f69 2 (by decide)) 2).trans (congrFun (f50 2 (by decide)) 2))))
  have z103 : (σ67 55 5).toInt = (σ 55 5).toInt := (congrArg Int32.toInt (show σ67 55 5 = (σ 55 5) from ((f70 5 (by decide)).trans (congrFun (f50 55 (by decide)) 5))))
  have z104 : (σ67 2 3).toInt = (σ 2 3).toInt := (congrArg Int32.toInt (show σ67 2 3 = (σ 2 3) from ((congrFun (f69 2 (by decide)) 3).trans (congrFun (f50 2 (by decide)) 3))))
  have z105 : (σ67 55 4).toInt = (σ 55 4).toInt := (congrArg Int32.toInt (show σ67 55 4 = (σ 55 4) from ((f70 4 (by decide)).trans (congrFun (f50 55 (by decide)) 4))))
  have z106 : (σ67 9 0).toInt = (σ48 9 0).toInt := (congrArg Int32.toInt (show σ67 9 0 = (σ48 9 0) from (congrFun (f69 9 (by decide)) 0)))
  have z107 : (σ67 16 0).toInt = (σ 16 0).toInt := (congrArg Int32.toInt (show σ67 16 0 = (σ 16 0) from ((congrFun (f69 16 (by decide)) 0).trans (congrFun (f50 16 (by decide)) 0))))
  have z108 : (σ67 55 10).toInt = (σ 55 10).toInt := (congrArg Int32.toInt (show σ67 55 10 = (σ 55 10) from ((f70 10 (by decide)).trans (congrFun (f50 55 (by decide)) 10))))
  have z109 : (σ67 16 1).toInt = (σ 16 1).toInt := (congrArg Int32.toInt (show σ67 16 1 = (σ 16 1) from ((congrFun (f69 16 (by decide)) 1).trans (congrFun (f50 16 (by decide)) 1))))
  have z110 : (σ67 55 12).toInt = (σ 55 12).toInt := (congrArg Int32.toInt (show σ67 55 12 = (σ 55 12) from ((f70 12 (by decide)).trans (congrFun (f50 55 (by decide)) 12))))
  have z111 : (σ67 16 2).toInt = (σ 16 2).toInt := (congrArg Int32.toInt (show σ67 16 2 = (σ 16 2) from ((congrFun (f69 16 (by decide)) 2).trans (congrFun (f50 16 (by decide)) 2))))
  have z112 : (σ67 55 13).toInt = (σ 55 13).toInt := (congrArg Int32.toInt (show σ67 55 13 = (σ 55 13) from ((f70 13 (by decide)).trans (congrFun (f50 55 (by decide)) 13))))
  have z113 : (σ67 38 0).toInt = (σ 38 0).toInt := (congrArg Int32.toInt (show σ67 38 0 = (σ 38 0) from ((congrFun (f69 38 (by decide)) 0).trans (congrFun (f50 38 (by decide)) 0))))
  have z114 : (σ67 55 32).toInt = (σ 55 32).toInt := (congrArg Int32.toInt (show σ67 55 32 = (σ 55 32) from ((f70 32 (by decide)).trans (congrFun (f50 55 (by decide)) 32))))
  have z115 : (σ67 47 0).toInt = (σ 47 0).toInt := (congrArg Int32.toInt (show σ67 47 0 = (σ 47 0) from ((congrFun (f69 47 (by decide)) 0).trans (congrFun (f50 47 (by decide)) 0))))
  have z116 : (σ67 55 47).toInt = (σ 55 47).toInt := (congrArg Int32.toInt (show σ67 55 47 = (σ 55 47) from ((f70 47 (by decide)).trans (congrFun (f50 55 (by decide)) 47))))
  have z117 : (σ67 55 30).toInt = (σ 55 30).toInt := (congrArg Int32.toInt (show σ67 55 30 = (σ 55 30) from ((f70 30 (by decide)).trans (congrFun (f50 55 (by decide)) 30))))
  have z118 : (σ67 55 31).toInt = (σ 55 31).toInt := (congrArg Int32.toInt (show σ67 55 31 = (σ 55 31) from ((f70 31 (by decide)).trans (congrFun (f50 55 (by decide)) 31))))
  exact ih x76 σ67 τ _ _ ls (by have h9 := tx76; omega) ⟨I77, I78, I79, I80, I81, I82, I83, I84, I85, I86, I87, I88, I89, I90, I91, I71, I92, I93, I94, I95, I96, I97, p98, p99, (by omega), (by omega), (by omega), (by omega), (by omega), (by omega), (by omega), (by omega), (by omega), (by omega), (by omega), (show jNumP (σ67 3) (σ67 56) (σ67 6) (σ67 57) (σ67 7) (σ67 58) (σ67 8) (σ67 59) (σ67 55 6).toInt (σ67 55 4).toInt by rw [show σ67 3 = σ 3 from ((f69 3 (by decide)).trans (f50 3 (by decide))), show σ67 56 = σ 56 from ((f69 56 (by decide)).trans (f50 56 (by decide))), show σ67 6 = σ 6 from ((f69 6 (by decide)).trans (f50 6 (by decide))), show σ67 57 = σ 57 from ((f69 57 (by decide)).trans (f50 57 (by decide))), show σ67 7 = σ 7 from ((f69 7 (by decide)).trans (f50 7 (by decide))), show σ67 58 = σ 58 from ((f69 58 (by decide)).trans (f50 58 (by decide))), show σ67 8 = σ 8 from ((f69 8 (by decide)).trans (f50 8 (by decide))), show σ67 59 = σ 59 from ((f69 59 (by decide)).trans (f50 59 (by decide))), show (σ67 55 6).toInt = (σ 55 6).toInt from by omega, show (σ67 55 4).toInt = (σ 55 4).toInt from by omega]; exact hr0), (show jOvP (σ67 56) (σ67 57) (σ67 58) (σ67 59) (σ67 55 4).toInt by rw [show σ67 56 = σ 56 from ((f69 56 (by decide)).trans (f50 56 (by decide))), show σ67 57 = σ 57 from ((f69 57 (by decide)).trans (f50 57 (by decide))), show σ67 58 = σ 58 from ((f69 58 (by decide)).trans (f50 58 (by decide))), show σ67 59 = σ 59 from ((f69 59 (by decide)).trans (f50 59 (by decide))), show (σ67 55 4).toInt = (σ 55 4).toInt from by omega]; exact hr1), (show jTp (σ67 10) (σ67 63) (σ67 55 15).toInt by rw [show σ67 10 = σ 10 from ((f69 10 (by decide)).trans (f50 10 (by decide))), show σ67 63 = σ 63 from ((f69 63 (by decide)).trans (f50 63 (by decide)))]; exact hr2.le (by omega)), (show jSo (σ67 17) (σ67 62) (σ67 16 0).toInt by rw [show σ67 17 = σ 17 from ((f69 17 (by decide)).trans (f50 17 (by decide))), show σ67 62 = σ 62 from ((f69 62 (by decide)).trans (f50 62 (by decide))), show (σ67 16 0).toInt = (σ 16 0).toInt from by omega]; exact hr3), (show jShP (σ67 51) (σ67 52) (σ67 53) (σ67 86) (σ67 87) (σ67 55 32).toInt by rw [show σ67 51 = σ 51 from ((f69 51 (by decide)).trans (f50 51 (by decide))), show σ67 52 = σ 52 from ((f69 52 (by decide)).trans (f50 52 (by decide))), show σ67 53 = σ 53 from ((f69 53 (by decide)).trans (f50 53 (by decide))), show σ67 86 = σ 86 from ((f69 86 (by decide)).trans (f50 86 (by decide))), show σ67 87 = σ 87 from ((f69 87 (by decide)).trans (f50 87 (by decide)))]; exact (hr4.up (by omega) (by omega))), (show jEl (σ67 51) (σ67 52) (τ 54) (τ 88) by rw [show σ67 51 = σ 51 from ((f69 51 (by decide)).trans (f50 51 (by decide))), show σ67 52 = σ 52 from ((f69 52 (by decide)).trans (f50 52 (by decide)))]; exact hr5), (show jByP (σ67 51) (σ67 52) (τ 54) by rw [show σ67 51 = σ 51 from ((f69 51 (by decide)).trans (f50 51 (by decide))), show σ67 52 = σ 52 from ((f69 52 (by decide)).trans (f50 52 (by decide)))]; exact hr6), (show jBk (σ67 48) (σ67 80) (σ67 49) (σ67 81) (σ67 55 47).toInt by rw [show σ67 48 = σ 48 from ((f69 48 (by decide)).trans (f50 48 (by decide))), show σ67 49 = σ 49 from ((f69 49 (by decide)).trans (f50 49 (by decide))), show σ67 80 = σ 80 from ((f69 80 (by decide)).trans (f50 80 (by decide))), show σ67 81 = σ 81 from ((f69 81 (by decide)).trans (f50 81 (by decide))), show (σ67 55 47).toInt = (σ 55 47).toInt from by omega]; exact hr7)⟩ hP hS (lv_sub hl [0, 1, 2, 3] rfl)
set_option maxHeartbeats 4000000 in
set_option maxRecDepth 100000 in
theorem law_case_7 {p : Program} {e : Env} {s : State} {m : MethodId} {below : List Frame} {meth : Method} {c : Code} (l : Launch) {b L : Nat} {xs : Nat → Int32} {D : va_G} {cI cL : ClassId} {ad zz : Nat → Nat} (C0 : lw_At p s m meth c b L xs) (hJ : jD ad) (hA : ∀ q, jA ad q → s.heap.size ≤ q) (hK : jK D cI cL s) (hZ : jZ zz (fun q : Nat => s.heap.size ≤ q) s s.heap) {x0 : Int32} (hx0 : 0 ≤ x0.toInt) (hxL : x0.toInt + 6 ≤ (L : Int)) (hL : L ≤ 384) {σ : Nat → Nat → Int32} {τ : Nat → Nat → Int64} {H : Heap} {locs : List Loc} (hS : va_S (fun q : Nat => s.heap.size ≤ q) s.heap H locs) {ls : Array Slot} (hAll : jAll σ τ) (hP : jH D cI cL ad σ τ H) (hl : lv_has ls 4 [(3, .int x0), (2, .ref (ad 55)), (1, .ref (ad 0)), (0, .ref b)]) (ih : ∀ (x1 : Int32) (σ : Nat → Nat → Int32) (τ : Nat → Nat → Int64) (H : Heap) (locs : List Loc) (ls : Array Slot), x1.toInt = x0.toInt + 6 → jAll σ τ → jH D cI cL ad σ τ H → va_S (fun q : Nat => s.heap.size ≤ q) s.heap H locs → lv_has ls 4 [(3, .int x1), (2, .ref (ad 55)), (1, .ref (ad 0)), (0, .ref b)] → W p l e room_1 s m #[Value.ref b] below meth c H locs 90 348600 (lw_Z below #[Value.ref b] s) (F0 m 18 ls [])) : W p l e room_1 s m #[Value.ref b] below meth c H locs 90 348600 (lw_Z below #[Value.ref b] s) (F0 m 417 ls []) := by
  obtain ⟨hx, hb, hr, hml, hown, hts0, hX, hbl, hlocks, hgv⟩ := C0
  have hts : ∀ w ∈ wsL_law, w.before #[Value.ref b] s = true := fun w h => hts0 w (wsL_law_in w h)
  have hbA : ¬ (fun q : Nat => s.heap.size ≤ q) b := Nat.not_le.mpr hbl
  have hown : s.vm.findClass RL = some m.cls := hown
  obtain ⟨hI2, hI9, hI12, hI16, hI18, hI22, hI31, hI38, hI43, hI47, hI50, hI101, hI102, hI103, hI104, hI105, hI106, hI107, hI109, hI110, hI111, hI119, hs_jKept, hs_jBook, ht0, ht1, ht2, ht3, ht4, ht5, ht6, ht7, ht8, ht9, ht10, hr0, hr1, hr2, hr3, hr4, hr5, hr6, hr7⟩ := hAll
  have hL9 : (L : Int) ≤ 384 := by omega
  obtain ⟨i1, i2, i3, i4, i5, w6⟩ : (0 ≤ (σ 2 0).toInt ∧ (σ 2 0).toInt ≤ 4) ∧ (0 ≤ (σ 2 1).toInt ∧ (σ 2 1).toInt ≤ 3) ∧ (0 ≤ (σ 2 2).toInt) ∧ (0 ≤ (σ 2 3).toInt) ∧ ((σ 2 2).toInt + (σ 2 3).toInt ≤ 40) ∧ (∀ k : Nat, k < 40 → 0 ≤ (σ 6 k).toInt ∧ (σ 6 k).toInt ≤ 67) := id hI2
  obtain ⟨i7, w8, w9⟩ : (0 ≤ (σ 9 0).toInt ∧ (σ 9 0).toInt ≤ 80) ∧ (∀ k : Nat, k < 80 → 0 ≤ (σ 10 k).toInt ∧ (σ 10 k).toInt ≤ 255) ∧ (∀ k : Nat, k < 8 → 0 ≤ (σ 11 k).toInt ∧ (σ 11 k).toInt ≤ 3) := id hI9
  obtain ⟨i10, i11, i12, w13⟩ : (1 ≤ (σ 16 0).toInt ∧ (σ 16 0).toInt ≤ 8) ∧ (1 ≤ (σ 16 1).toInt ∧ (σ 16 1).toInt ≤ 12) ∧ (0 ≤ (σ 16 2).toInt ∧ (σ 16 2).toInt ≤ 999) ∧ (∀ k : Nat, k < 8 → 0 ≤ (σ 17 k).toInt ∧ (σ 17 k).toInt ≤ 3) := id hI16
  obtain ⟨i14, i15, w16⟩ : (0 ≤ (σ 38 0).toInt ∧ (σ 38 0).toInt ≤ 20) ∧ (0 ≤ (σ 38 1).toInt ∧ (σ 38 1).toInt ≤ 1000) ∧ (∀ k : Nat, k < 20 → 0 ≤ (σ 39 k).toInt ∧ (σ 39 k).toInt ≤ 6) := id hI38
  obtain ⟨i17, w18, w19⟩ : (0 ≤ (σ 47 0).toInt ∧ (σ 47 0).toInt ≤ 12) ∧ (∀ k : Nat, k < 12 → 0 ≤ (σ 48 k).toInt ∧ (σ 48 k).toInt ≤ 3) ∧ (∀ k : Nat, k < 12 → 0 ≤ (σ 49 k).toInt ∧ (σ 49 k).toInt ≤ 1) := id hI47
  have w20 : ∀ k : Nat, k < 6 → 0 ≤ (σ 52 k).toInt ∧ (σ 52 k).toInt ≤ 60 := hI50
  obtain ⟨i21, i22, i23, w24, w25, w26, w27⟩ : (0 ≤ (σ 55 5).toInt) ∧ ((σ 55 5).toInt ≤ (σ 55 4).toInt) ∧ ((σ 55 4).toInt ≤ 40) ∧ (∀ k : Nat, k < 68 → (-200) ≤ (σ 56 k).toInt ∧ (σ 56 k).toInt ≤ 500) ∧ (∀ k : Nat, k < 40 → 0 ≤ (σ 57 k).toInt ∧ (σ 57 k).toInt ≤ 67) ∧ (∀ k : Nat, k < 40 → (-200) ≤ (σ 58 k).toInt ∧ (σ 58 k).toInt ≤ 500) ∧ (∀ k : Nat, k < 40 → (-200) ≤ (σ 59 k).toInt ∧ (σ 59 k).toInt ≤ 500) := id hI101
  obtain ⟨i28, w29, w30⟩ : (0 ≤ (σ 55 6).toInt ∧ (σ 55 6).toInt ≤ 4) ∧ (∀ k : Nat, k < 4 → 0 ≤ (σ 60 k).toInt ∧ (σ 60 k).toInt ≤ 50) ∧ (∀ k : Nat, k < 4 → 0 ≤ (σ 61 k).toInt ∧ (σ 61 k).toInt ≤ 20) := id hI102
  obtain ⟨i31, i32, i33, w34, w35⟩ : (1 ≤ (σ 55 10).toInt ∧ (σ 55 10).toInt ≤ 8) ∧ (1 ≤ (σ 55 12).toInt ∧ (σ 55 12).toInt ≤ 12) ∧ (0 ≤ (σ 55 13).toInt ∧ (σ 55 13).toInt ≤ 999) ∧ (∀ k : Nat, k < 8 → 0 ≤ (σ 62 k).toInt ∧ (σ 62 k).toInt ≤ 3) ∧ (∀ k : Nat, k < 8 → 0 ≤ (σ 67 k).toInt ∧ (σ 67 k).toInt ≤ 3) := id hI104
  obtain ⟨i36, w37⟩ : (0 ≤ (σ 55 15).toInt ∧ (σ 55 15).toInt ≤ 80) ∧ (∀ k : Nat, k < 2 → (-1) ≤ (σ 65 k).toInt ∧ (σ 65 k).toInt ≤ 80) := id hI105
  obtain ⟨i38, w39, w40, w41⟩ : (0 ≤ (σ 55 32).toInt ∧ (σ 55 32).toInt ≤ 20) ∧ (∀ k : Nat, k < 20 → 0 ≤ (σ 70 k).toInt ∧ (σ 70 k).toInt ≤ 6) ∧ (∀ k : Nat, k < 20 → 0 ≤ (σ 71 k).toInt ∧ (σ 71 k).toInt ≤ 8) ∧ (∀ k : Nat, k < 160 → 0 ≤ (σ 72 k).toInt ∧ (σ 72 k).toInt ≤ 3) := id hI106
  obtain ⟨i42, i43, w44⟩ : (0 ≤ (σ 55 47).toInt ∧ (σ 55 47).toInt ≤ 12) ∧ ((σ 55 47).toInt ≤ (σ 55 12).toInt) ∧ (∀ k : Nat, k < 12 → 0 ≤ (σ 80 k).toInt ∧ (σ 80 k).toInt ≤ 3) := id hI107
  refine lv_aload_n hx hb dL_law_417 rfl (lv_at hl 2 rfl) ?_
  refine lv_aload_n hx hb dL_law_418 rfl (lv_at hl 3 rfl) ?_
  refine lv_iload_n hx hb dL_law_419 rfl (lv_at hl 0 rfl) ?_
  refine lv_iconst (v := 1) hx hb dL_law_420 (by decide) ?_
  have g45 := jrg (rfl : x0.toInt = x0.toInt)
  refine lv_iadd hx hb dL_law_421 ?_
  refine lv_topi (fun x46 ex46 => ?_)
  have tx46 : x46.toInt = x0.toInt + 1 := (jadd ex46 rfl jz_1 (by omega) (by omega)).trans (by omega)
  refine va_sld hx hb hX hbl hbA hS (jin tx46 (by omega) (by omega)) dL_law_422 ?_
  have g47 := jrg (rfl : (xs x46.toNatClampNeg).toInt = (xs x46.toNatClampNeg).toInt)
  refine jcallV (As := [.int (xs x46.toNatClampNeg)]) (rest := []) ⟨hx, hb, hml, hown, hts⟩ hK hP hA hS hZ (c_X11_of l D cI cL ad zz hJ σ τ (xs x46.toNatClampNeg) ((xs x46.toNatClampNeg).toInt) rfl hI16) cw_RL_45 (jc_0 cI cL ad σ τ) rfl ⟨Nat.le_of_ble_eq_true rfl, Nat.le_of_ble_eq_true rfl⟩ rfl rfl rfl hl.1 rfl (Nat.le_of_ble_eq_true rfl) dL_law_423 ⟨Nat.le_of_ble_eq_true rfl, Nat.le_of_ble_eq_true rfl⟩ (fun r49 σ48 τ48 H locs h48 hP hS => ?_)
  obtain ⟨⟨rfl, rfl⟩, h48⟩ := h48
  rcases h48 with h50 | h51 | h52 | h53 | h54
  · obtain ⟨q57, k55, k56⟩ := h50
    refine lv_pop hx hb dL_law_426 rfl ?_
    refine lv_aload_n hx hb dL_law_427 rfl (lv_at hl 1 rfl) ?_
    refine lv_aload_n hx hb dL_law_428 rfl (lv_at hl 3 rfl) ?_
    refine lv_iload_n hx hb dL_law_429 rfl (lv_at hl 0 rfl) ?_
    refine lv_iconst (v := 1) hx hb dL_law_430 (by decide) ?_
    refine lv_iadd hx hb dL_law_431 ?_
    refine jtopr ex46.symm ?_
    refine va_sld hx hb hX hbl hbA hS (jin tx46 (by omega) (by omega)) dL_law_432 ?_
    refine jcallV (As := [.int (xs x46.toNatClampNeg)]) (rest := []) ⟨hx, hb, hml, hown, hts⟩ hK hP hA hS hZ (c_X12_of l D cI cL ad zz hJ σ τ (xs x46.toNatClampNeg) ((xs x46.toNatClampNeg).toInt) rfl hI104 hI107) cw_RL_48 (jc_55 cI cL ad σ τ) rfl ⟨Nat.le_of_ble_eq_true rfl, Nat.le_of_ble_eq_true rfl⟩ rfl rfl rfl hl.1 rfl (Nat.le_of_ble_eq_true rfl) dL_law_433 ⟨Nat.le_of_ble_eq_true rfl, Nat.le_of_ble_eq_true rfl⟩ (fun r59 σ58 τ58 H locs h58 hP hS => ?_)
    obtain ⟨⟨rfl, rfl⟩, h58⟩ := h58
    rcases h58 with h60 | h61 | h62 | h63 | h64
    · obtain ⟨q67, k65, k66⟩ := h60
      refine lv_pop hx hb dL_law_436 rfl ?_
      refine lv_goto (tgt := 1357) hx hb dL_law_437 (by decide) ?_
      obtain ⟨x68, ex68⟩ : ∃ y : Int32, y = x0 + 6 := ⟨_, rfl⟩
      have tx68 : x68.toInt = x0.toInt + 6 := (jadd ex68 rfl jz_6 (by omega) (by omega)).trans (by omega)
      refine lv_iinc (v := x68) (lv' := [(3, .int x68), (2, .ref (ad 55)), (1, .ref (ad 0)), (0, .ref b)]) hx hb dL_law_1357 hl (k := 0) rfl (by rw [ex68]; rfl) (by decide) rfl (fun ls hl => ?_)
      refine lv_goto (tgt := 18) hx hb dL_law_1360 (by decide) ?_
      exact ih x68 σ τ _ _ ls (by have h9 := tx68; omega) ⟨hI2, hI9, hI12, hI16, hI18, hI22, hI31, hI38, hI43, hI47, hI50, hI101, hI102, hI103, hI104, hI105, hI106, hI107, hI109, hI110, hI111, hI119, hs_jKept, hs_jBook, (by omega), (by omega), (by omega), (by omega), (by omega), (by omega), (by omega), (by omega), (by omega), (by omega), (by omega), hr0, hr1, hr2, hr3, hr4, hr5, hr6, hr7⟩ hP hS (lv_sub hl [0, 1, 2, 3] rfl)
    · obtain ⟨q71, k69, k70⟩ := h61
      exact absurd (by omega : False) id
    · obtain ⟨q74, k72, k73⟩ := h62
      exact absurd (by omega : False) id
    · obtain ⟨q78, k75, k76, k77⟩ := h63
      exact absurd (by omega : False) id
    · obtain ⟨q80, k79⟩ := h64
      exact absurd (by omega : False) id
  · obtain ⟨q83, k81, k82⟩ := h51
    refine lv_pop hx hb dL_law_426 rfl ?_
    refine lv_aload_n hx hb dL_law_427 rfl (lv_at hl 1 rfl) ?_
    refine lv_aload_n hx hb dL_law_428 rfl (lv_at hl 3 rfl) ?_
    refine lv_iload_n hx hb dL_law_429 rfl (lv_at hl 0 rfl) ?_
    refine lv_iconst (v := 1) hx hb dL_law_430 (by decide) ?_
    refine lv_iadd hx hb dL_law_431 ?_
    refine jtopr ex46.symm ?_
    refine va_sld hx hb hX hbl hbA hS (jin tx46 (by omega) (by omega)) dL_law_432 ?_
    refine jcallV (As := [.int (xs x46.toNatClampNeg)]) (rest := []) ⟨hx, hb, hml, hown, hts⟩ hK hP hA hS hZ (c_X12_of l D cI cL ad zz hJ σ τ (xs x46.toNatClampNeg) ((xs x46.toNatClampNeg).toInt) rfl hI104 hI107) cw_RL_48 (jc_55 cI cL ad σ τ) rfl ⟨Nat.le_of_ble_eq_true rfl, Nat.le_of_ble_eq_true rfl⟩ rfl rfl rfl hl.1 rfl (Nat.le_of_ble_eq_true rfl) dL_law_433 ⟨Nat.le_of_ble_eq_true rfl, Nat.le_of_ble_eq_true rfl⟩ (fun r85 σ84 τ84 H locs h84 hP hS => ?_)
    obtain ⟨⟨rfl, rfl⟩, h84⟩ := h84
    rcases h84 with h86 | h87 | h88 | h89 | h90
    · obtain ⟨q93, k91, k92⟩ := h86
      exact absurd (by omega : False) id
    · obtain ⟨q96, k94, k95⟩ := h87
      refine lv_pop hx hb dL_law_436 rfl ?_
      refine lv_goto (tgt := 1357) hx hb dL_law_437 (by decide) ?_
      obtain ⟨x97, ex97⟩ : ∃ y : Int32, y = x0 + 6 := ⟨_, rfl⟩
      have tx97 : x97.toInt = x0.toInt + 6 := (jadd ex97 rfl jz_6 (by omega) (by omega)).trans (by omega)
      refine lv_iinc (v := x97) (lv' := [(3, .int x97), (2, .ref (ad 55)), (1, .ref (ad 0)), (0, .ref b)]) hx hb dL_law_1357 hl (k := 0) rfl (by rw [ex97]; rfl) (by decide) rfl (fun ls hl => ?_)
      refine lv_goto (tgt := 18) hx hb dL_law_1360 (by decide) ?_
      exact ih x97 σ τ _ _ ls (by have h9 := tx97; omega) ⟨hI2, hI9, hI12, hI16, hI18, hI22, hI31, hI38, hI43, hI47, hI50, hI101, hI102, hI103, hI104, hI105, hI106, hI107, hI109, hI110, hI111, hI119, hs_jKept, hs_jBook, (by omega), (by omega), (by omega), (by omega), (by omega), (by omega), (by omega), (by omega), (by omega), (by omega), (by omega), hr0, hr1, hr2, hr3, hr4, hr5, hr6, hr7⟩ hP hS (lv_sub hl [0, 1, 2, 3] rfl)
    · obtain ⟨q100, k98, k99⟩ := h88
      exact absurd (by omega : False) id
    · obtain ⟨q104, k101, k102, k103⟩ := h89
      exact absurd (by omega : False) id
    · obtain ⟨q106, k105⟩ := h90
      exact absurd (by omega : False) id
  · obtain ⟨q109, k107, k108⟩ := h52
    refine lv_pop hx hb dL_law_426 rfl ?_
    refine lv_aload_n hx hb dL_law_427 rfl (lv_at hl 1 rfl) ?_
    refine lv_aload_n hx hb dL_law_428 rfl (lv_at hl 3 rfl) ?_
    refine lv_iload_n hx hb dL_law_429 rfl (lv_at hl 0 rfl) ?_
    refine lv_iconst (v := 1) hx hb dL_law_430 (by decide) ?_
    refine lv_iadd hx hb dL_law_431 ?_
    refine jtopr ex46.symm ?_
    refine va_sld hx hb hX hbl hbA hS (jin tx46 (by omega) (by omega)) dL_law_432 ?_
    refine jcallV (As := [.int (xs x46.toNatClampNeg)]) (rest := []) ⟨hx, hb, hml, hown, hts⟩ hK hP hA hS hZ (c_X12_of l D cI cL ad zz hJ σ τ (xs x46.toNatClampNeg) ((xs x46.toNatClampNeg).toInt) rfl hI104 hI107) cw_RL_48 (jc_55 cI cL ad σ τ) rfl ⟨Nat.le_of_ble_eq_true rfl, Nat.le_of_ble_eq_true rfl⟩ rfl rfl rfl hl.1 rfl (Nat.le_of_ble_eq_true rfl) dL_law_433 ⟨Nat.le_of_ble_eq_true rfl, Nat.le_of_ble_eq_true rfl⟩ (fun r111 σ110 τ110 H locs h110 hP hS => ?_)
    obtain ⟨⟨rfl, rfl⟩, h110⟩ := h110
    rcases h110 with h112 | h113 | h114 | h115 | h116
    · obtain ⟨q119, k117, k118⟩ := h112
      exact absurd (by omega : False) id
    · obtain ⟨q122, k120, k121⟩ := h113
      exact absurd (by omega : False) id
    · obtain ⟨q125, k123, k124⟩ := h114
      refine lv_pop hx hb dL_law_436 rfl ?_
      refine lv_goto (tgt := 1357) hx hb dL_law_437 (by decide) ?_
      obtain ⟨x126, ex126⟩ : ∃ y : Int32, y = x0 + 6 := ⟨_, rfl⟩
      have tx126 : x126.toInt = x0.toInt + 6 := (jadd ex126 rfl jz_6 (by omega) (by omega)).trans (by omega)
      refine lv_iinc (v := x126) (lv' := [(3, .int x126), (2, .ref (ad 55)), (1, .ref (ad 0)), (0, .ref b)]) hx hb dL_law_1357 hl (k := 0) rfl (by rw [ex126]; rfl) (by decide) rfl (fun ls hl => ?_)
      refine lv_goto (tgt := 18) hx hb dL_law_1360 (by decide) ?_
      exact ih x126 σ τ _ _ ls (by have h9 := tx126; omega) ⟨hI2, hI9, hI12, hI16, hI18, hI22, hI31, hI38, hI43, hI47, hI50, hI101, hI102, hI103, hI104, hI105, hI106, hI107, hI109, hI110, hI111, hI119, hs_jKept, hs_jBook, (by omega), (by omega), (by omega), (by omega), (by omega), (by omega), (by omega), (by omega), (by omega), (by omega), (by omega), hr0, hr1, hr2, hr3, hr4, hr5, hr6, hr7⟩ hP hS (lv_sub hl [0, 1, 2, 3] rfl)
    · obtain ⟨q130, k127, k128, k129⟩ := h115
      exact absurd (by omega : False) id
    · obtain ⟨q132, k131⟩ := h116
      exact absurd (by omega : False) id
  · obtain ⟨q136, k133, k134, k135⟩ := h53
    refine lv_pop hx hb dL_law_426 rfl ?_
    refine lv_aload_n hx hb dL_law_427 rfl (lv_at hl 1 rfl) ?_
    refine lv_aload_n hx hb dL_law_428 rfl (lv_at hl 3 rfl) ?_
    refine lv_iload_n hx hb dL_law_429 rfl (lv_at hl 0 rfl) ?_
    refine lv_iconst (v := 1) hx hb dL_law_430 (by decide) ?_
    refine lv_iadd hx hb dL_law_431 ?_
    refine jtopr ex46.symm ?_
    refine va_sld hx hb hX hbl hbA hS (jin tx46 (by omega) (by omega)) dL_law_432 ?_
    refine jcallV (As := [.int (xs x46.toNatClampNeg)]) (rest := []) ⟨hx, hb, hml, hown, hts⟩ hK hP hA hS hZ (c_X12_of l D cI cL ad zz hJ σ τ (xs x46.toNatClampNeg) ((xs x46.toNatClampNeg).toInt) rfl hI104 hI107) cw_RL_48 (jc_55 cI cL ad σ τ) rfl ⟨Nat.le_of_ble_eq_true rfl, Nat.le_of_ble_eq_true rfl⟩ rfl rfl rfl hl.1 rfl (Nat.le_of_ble_eq_true rfl) dL_law_433 ⟨Nat.le_of_ble_eq_true rfl, Nat.le_of_ble_eq_true rfl⟩ (fun r138 σ137 τ137 H locs h137 hP hS => ?_)
    obtain ⟨⟨rfl, rfl⟩, h137⟩ := h137
    rcases h137 with h139 | h140 | h141 | h142 | h143
    · obtain ⟨q146, k144, k145⟩ := h139
      exact absurd (by omega : False) id
    · obtain ⟨q149, k147, k148⟩ := h140
      exact absurd (by omega : False) id
    · obtain ⟨q152, k150, k151⟩ := h141
      exact absurd (by omega : False) id
    · obtain ⟨q156, k153, k154, k155⟩ := h142
      refine lv_pop hx hb dL_law_436 rfl ?_
      refine lv_goto (tgt := 1357) hx hb dL_law_437 (by decide) ?_
      obtain ⟨x157, ex157⟩ : ∃ y : Int32, y = x0 + 6 := ⟨_, rfl⟩
      have tx157 : x157.toInt = x0.toInt + 6 := (jadd ex157 rfl jz_6 (by omega) (by omega)).trans (by omega)
      refine lv_iinc (v := x157) (lv' := [(3, .int x157), (2, .ref (ad 55)), (1, .ref (ad 0)), (0, .ref b)]) hx hb dL_law_1357 hl (k := 0) rfl (by rw [ex157]; rfl) (by decide) rfl (fun ls hl => ?_)
      refine lv_goto (tgt := 18) hx hb dL_law_1360 (by decide) ?_
      exact ih x157 σ τ _ _ ls (by have h9 := tx157; omega) ⟨hI2, hI9, hI12, hI16, hI18, hI22, hI31, hI38, hI43, hI47, hI50, hI101, hI102, hI103, hI104, hI105, hI106, hI107, hI109, hI110, hI111, hI119, hs_jKept, hs_jBook, (by omega), (by omega), (by omega), (by omega), (by omega), (by omega), (by omega), (by omega), (by omega), (by omega), (by omega), hr0, hr1, hr2, hr3, hr4, hr5, hr6, hr7⟩ hP hS (lv_sub hl [0, 1, 2, 3] rfl)
    · obtain ⟨q159, k158⟩ := h143
      exact absurd (by omega : False) id
  · obtain ⟨q161, k160⟩ := h54
    have q161 := q161.symm
    subst q161
    refine lv_pop hx hb dL_law_426 rfl ?_
    refine lv_aload_n hx hb dL_law_427 rfl (lv_at hl 1 rfl) ?_
    refine lv_aload_n hx hb dL_law_428 rfl (lv_at hl 3 rfl) ?_
    refine lv_iload_n hx hb dL_law_429 rfl (lv_at hl 0 rfl) ?_
    refine lv_iconst (v := 1) hx hb dL_law_430 (by decide) ?_
    refine lv_iadd hx hb dL_law_431 ?_
    refine jtopr ex46.symm ?_
    refine va_sld hx hb hX hbl hbA hS (jin tx46 (by omega) (by omega)) dL_law_432 ?_
    refine jcallV (As := [.int (xs x46.toNatClampNeg)]) (rest := []) ⟨hx, hb, hml, hown, hts⟩ hK hP hA hS hZ (c_X12_of l D cI cL ad zz hJ σ τ (xs x46.toNatClampNeg) ((xs x46.toNatClampNeg).toInt) rfl hI104 hI107) cw_RL_48 (jc_55 cI cL ad σ τ) rfl ⟨Nat.le_of_ble_eq_true rfl, Nat.le_of_ble_eq_true rfl⟩ rfl rfl rfl hl.1 rfl (Nat.le_of_ble_eq_true rfl) dL_law_433 ⟨Nat.le_of_ble_eq_true rfl, Nat.le_of_ble_eq_true rfl⟩ (fun r163 σ162 τ162 H locs h162 hP hS => ?_)
    obtain ⟨⟨rfl, rfl⟩, h162⟩ := h162
    rcases h162 with h164 | h165 | h166 | h167 | h168
    · obtain ⟨q171, k169, k170⟩ := h164
      exact absurd (by omega : False) id
    · obtain ⟨q174, k172, k173⟩ := h165
      exact absurd (by omega : False) id
    · obtain ⟨q177, k175, k176⟩ := h166
      exact absurd (by omega : False) id
    · obtain ⟨q181, k178, k179, k180⟩ := h167
      exact absurd (by omega : False) id
    · obtain ⟨q183, k182⟩ := h168
      have q183 := q183.symm
      subst q183
      refine lv_pop hx hb dL_law_436 rfl ?_
      refine lv_goto (tgt := 1357) hx hb dL_law_437 (by decide) ?_
      obtain ⟨x184, ex184⟩ : ∃ y : Int32, y = x0 + 6 := ⟨_, rfl⟩
      have tx184 : x184.toInt = x0.toInt + 6 := (jadd ex184 rfl jz_6 (by omega) (by omega)).trans (by omega)
      refine lv_iinc (v := x184) (lv' := [(3, .int x184), (2, .ref (ad 55)), (1, .ref (ad 0)), (0, .ref b)]) hx hb dL_law_1357 hl (k := 0) rfl (by rw [ex184]; rfl) (by decide) rfl (fun ls hl => ?_)
      refine lv_goto (tgt := 18) hx hb dL_law_1360 (by decide) ?_
      exact ih x184 σ τ _ _ ls (by have h9 := tx184; omega) ⟨hI2, hI9, hI12, hI16, hI18, hI22, hI31, hI38, hI43, hI47, hI50, hI101, hI102, hI103, hI104, hI105, hI106, hI107, hI109, hI110, hI111, hI119, hs_jKept, hs_jBook, (by omega), (by omega), (by omega), (by omega), (by omega), (by omega), (by omega), (by omega), (by omega), (by omega), (by omega), hr0, hr1, hr2, hr3, hr4, hr5, hr6, hr7⟩ hP hS (lv_sub hl [0, 1, 2, 3] rfl)
set_option maxHeartbeats 4000000 in
set_option maxRecDepth 100000 in
theorem law_case_8 {p : Program} {e : Env} {s : State} {m : MethodId} {below : List Frame} {meth : Method} {c : Code} (l : Launch) {b L : Nat} {xs : Nat → Int32} {D : va_G} {cI cL : ClassId} {ad zz : Nat → Nat} (C0 : lw_At p s m meth c b L xs) (hJ : jD ad) (hA : ∀ q, jA ad q → s.heap.size ≤ q) (hK : jK D cI cL s) (hZ : jZ zz (fun q : Nat => s.heap.size ≤ q) s s.heap) {x0 : Int32} (hx0 : 0 ≤ x0.toInt) (hxL : x0.toInt + 6 ≤ (L : Int)) (hL : L ≤ 384) {σ : Nat → Nat → Int32} {τ : Nat → Nat → Int64} {H : Heap} {locs : List Loc} (hS : va_S (fun q : Nat => s.heap.size ≤ q) s.heap H locs) {ls : Array Slot} (hAll : jAll σ τ) (hP : jH D cI cL ad σ τ H) (hl : lv_has ls 4 [(3, .int x0), (2, .ref (ad 55)), (1, .ref (ad 0)), (0, .ref b)]) (ih : ∀ (x1 : Int32) (σ : Nat → Nat → Int32) (τ : Nat → Nat → Int64) (H : Heap) (locs : List Loc) (ls : Array Slot), x1.toInt = x0.toInt + 6 → jAll σ τ → jH D cI cL ad σ τ H → va_S (fun q : Nat => s.heap.size ≤ q) s.heap H locs → lv_has ls 4 [(3, .int x1), (2, .ref (ad 55)), (1, .ref (ad 0)), (0, .ref b)] → W p l e room_1 s m #[Value.ref b] below meth c H locs 90 348600 (lw_Z below #[Value.ref b] s) (F0 m 18 ls [])) : W p l e room_1 s m #[Value.ref b] below meth c H locs 90 348600 (lw_Z below #[Value.ref b] s) (F0 m 440 ls []) := by
  obtain ⟨hx, hb, hr, hml, hown, hts0, hX, hbl, hlocks, hgv⟩ := C0
  have hts : ∀ w ∈ wsL_law, w.before #[Value.ref b] s = true := fun w h => hts0 w (wsL_law_in w h)
  have hbA : ¬ (fun q : Nat => s.heap.size ≤ q) b := Nat.not_le.mpr hbl
  have hown : s.vm.findClass RL = some m.cls := hown
  obtain ⟨hI2, hI9, hI12, hI16, hI18, hI22, hI31, hI38, hI43, hI47, hI50, hI101, hI102, hI103, hI104, hI105, hI106, hI107, hI109, hI110, hI111, hI119, hs_jKept, hs_jBook, ht0, ht1, ht2, ht3, ht4, ht5, ht6, ht7, ht8, ht9, ht10, hr0, hr1, hr2, hr3, hr4, hr5, hr6, hr7⟩ := hAll
  have hL9 : (L : Int) ≤ 384 := by omega
  obtain ⟨i1, i2, i3, i4, i5, w6⟩ : (0 ≤ (σ 2 0).toInt ∧ (σ 2 0).toInt ≤ 4) ∧ (0 ≤ (σ 2 1).toInt ∧ (σ 2 1).toInt ≤ 3) ∧ (0 ≤ (σ 2 2).toInt) ∧ (0 ≤ (σ 2 3).toInt) ∧ ((σ 2 2).toInt + (σ 2 3).toInt ≤ 40) ∧ (∀ k : Nat, k < 40 → 0 ≤ (σ 6 k).toInt ∧ (σ 6 k).toInt ≤ 67) := id hI2
  obtain ⟨i7, w8, w9⟩ : (0 ≤ (σ 9 0).toInt ∧ (σ 9 0).toInt ≤ 80) ∧ (∀ k : Nat, k < 80 → 0 ≤ (σ 10 k).toInt ∧ (σ 10 k).toInt ≤ 255) ∧ (∀ k : Nat, k < 8 → 0 ≤ (σ 11 k).toInt ∧ (σ 11 k).toInt ≤ 3) := id hI9
  obtain ⟨i10, i11, i12, w13⟩ : (1 ≤ (σ 16 0).toInt ∧ (σ 16 0).toInt ≤ 8) ∧ (1 ≤ (σ 16 1).toInt ∧ (σ 16 1).toInt ≤ 12) ∧ (0 ≤ (σ 16 2).toInt ∧ (σ 16 2).toInt ≤ 999) ∧ (∀ k : Nat, k < 8 → 0 ≤ (σ 17 k).toInt ∧ (σ 17 k).toInt ≤ 3) := id hI16
  obtain ⟨i14, i15, w16⟩ : (0 ≤ (σ 38 0).toInt ∧ (σ 38 0).toInt ≤ 20) ∧ (0 ≤ (σ 38 1).toInt ∧ (σ 38 1).toInt ≤ 1000) ∧ (∀ k : Nat, k < 20 → 0 ≤ (σ 39 k).toInt ∧ (σ 39 k).toInt ≤ 6) := id hI38
  obtain ⟨i17, w18, w19⟩ : (0 ≤ (σ 47 0).toInt ∧ (σ 47 0).toInt ≤ 12) ∧ (∀ k : Nat, k < 12 → 0 ≤ (σ 48 k).toInt ∧ (σ 48 k).toInt ≤ 3) ∧ (∀ k : Nat, k < 12 → 0 ≤ (σ 49 k).toInt ∧ (σ 49 k).toInt ≤ 1) := id hI47
  have w20 : ∀ k : Nat, k < 6 → 0 ≤ (σ 52 k).toInt ∧ (σ 52 k).toInt ≤ 60 := hI50
  obtain ⟨i21, i22, i23, w24, w25, w26, w27⟩ : (0 ≤ (σ 55 5).toInt) ∧ ((σ 55 5).toInt ≤ (σ 55 4).toInt) ∧ ((σ 55 4).toInt ≤ 40) ∧ (∀ k : Nat, k < 68 → (-200) ≤ (σ 56 k).toInt ∧ (σ 56 k).toInt ≤ 500) ∧ (∀ k : Nat, k < 40 → 0 ≤ (σ 57 k).toInt ∧ (σ 57 k).toInt ≤ 67) ∧ (∀ k : Nat, k < 40 → (-200) ≤ (σ 58 k).toInt ∧ (σ 58 k).toInt ≤ 500) ∧ (∀ k : Nat, k < 40 → (-200) ≤ (σ 59 k).toInt ∧ (σ 59 k).toInt ≤ 500) := id hI101
  obtain ⟨i28, w29, w30⟩ : (0 ≤ (σ 55 6).toInt ∧ (σ 55 6).toInt ≤ 4) ∧ (∀ k : Nat, k < 4 → 0 ≤ (σ 60 k).toInt ∧ (σ 60 k).toInt ≤ 50) ∧ (∀ k : Nat, k < 4 → 0 ≤ (σ 61 k).toInt ∧ (σ 61 k).toInt ≤ 20) := id hI102
  obtain ⟨i31, i32, i33, w34, w35⟩ : (1 ≤ (σ 55 10).toInt ∧ (σ 55 10).toInt ≤ 8) ∧ (1 ≤ (σ 55 12).toInt ∧ (σ 55 12).toInt ≤ 12) ∧ (0 ≤ (σ 55 13).toInt ∧ (σ 55 13).toInt ≤ 999) ∧ (∀ k : Nat, k < 8 → 0 ≤ (σ 62 k).toInt ∧ (σ 62 k).toInt ≤ 3) ∧ (∀ k : Nat, k < 8 → 0 ≤ (σ 67 k).toInt ∧ (σ 67 k).toInt ≤ 3) := id hI104
  obtain ⟨i36, w37⟩ : (0 ≤ (σ 55 15).toInt ∧ (σ 55 15).toInt ≤ 80) ∧ (∀ k : Nat, k < 2 → (-1) ≤ (σ 65 k).toInt ∧ (σ 65 k).toInt ≤ 80) := id hI105
  obtain ⟨i38, w39, w40, w41⟩ : (0 ≤ (σ 55 32).toInt ∧ (σ 55 32).toInt ≤ 20) ∧ (∀ k : Nat, k < 20 → 0 ≤ (σ 70 k).toInt ∧ (σ 70 k).toInt ≤ 6) ∧ (∀ k : Nat, k < 20 → 0 ≤ (σ 71 k).toInt ∧ (σ 71 k).toInt ≤ 8) ∧ (∀ k : Nat, k < 160 → 0 ≤ (σ 72 k).toInt ∧ (σ 72 k).toInt ≤ 3) := id hI106
  obtain ⟨i42, i43, w44⟩ : (0 ≤ (σ 55 47).toInt ∧ (σ 55 47).toInt ≤ 12) ∧ ((σ 55 47).toInt ≤ (σ 55 12).toInt) ∧ (∀ k : Nat, k < 12 → 0 ≤ (σ 80 k).toInt ∧ (σ 80 k).toInt ≤ 3) := id hI107
  refine lv_aload_n hx hb dL_law_440 rfl (lv_at hl 2 rfl) ?_
  refine lv_aload_n hx hb dL_law_441 rfl (lv_at hl 3 rfl) ?_
  refine lv_iload_n hx hb dL_law_442 rfl (lv_at hl 0 rfl) ?_
  refine lv_iconst (v := 1) hx hb dL_law_443 (by decide) ?_
  have g45 := jrg (rfl : x0.toInt = x0.toInt)
  refine lv_iadd hx hb dL_law_444 ?_
  refine lv_topi (fun x46 ex46 => ?_)
  have tx46 : x46.toInt = x0.toInt + 1 := (jadd ex46 rfl jz_1 (by omega) (by omega)).trans (by omega)
  refine va_sld hx hb hX hbl hbA hS (jin tx46 (by omega) (by omega)) dL_law_445 ?_
  have g47 := jrg (rfl : (xs x46.toNatClampNeg).toInt = (xs x46.toNatClampNeg).toInt)
  refine lv_aload_n hx hb dL_law_446 rfl (lv_at hl 3 rfl) ?_
  refine lv_iload_n hx hb dL_law_447 rfl (lv_at hl 0 rfl) ?_
  refine lv_iconst (v := 2) hx hb dL_law_448 (by decide) ?_
  refine lv_iadd hx hb dL_law_449 ?_
  refine lv_topi (fun x48 ex48 => ?_)
  have tx48 : x48.toInt = x0.toInt + 2 := (jadd ex48 rfl jz_2 (by omega) (by omega)).trans (by omega)
  refine va_sld hx hb hX hbl hbA hS (jin tx48 (by omega) (by omega)) dL_law_450 ?_
  have g49 := jrg (rfl : (xs x48.toNatClampNeg).toInt = (xs x48.toNatClampNeg).toInt)
  refine lv_aload_n hx hb dL_law_451 rfl (lv_at hl 3 rfl) ?_
  refine lv_iload_n hx hb dL_law_452 rfl (lv_at hl 0 rfl) ?_
  refine lv_iconst (v := 3) hx hb dL_law_453 (by decide) ?_
  refine lv_iadd hx hb dL_law_454 ?_
  refine lv_topi (fun x50 ex50 => ?_)
  have tx50 : x50.toInt = x0.toInt + 3 := (jadd ex50 rfl jz_3 (by omega) (by omega)).trans (by omega)
  refine va_sld hx hb hX hbl hbA hS (jin tx50 (by omega) (by omega)) dL_law_455 ?_
  have g51 := jrg (rfl : (xs x50.toNatClampNeg).toInt = (xs x50.toNatClampNeg).toInt)
  refine jcallV (As := [.int (xs x46.toNatClampNeg), .int (xs x48.toNatClampNeg), .int (xs x50.toNatClampNeg)]) (rest := []) ⟨hx, hb, hml, hown, hts⟩ hK hP hA hS hZ (c_X11_over l D cI cL ad zz hJ σ τ (xs x46.toNatClampNeg) ((xs x46.toNatClampNeg).toInt) rfl (xs x48.toNatClampNeg) ((xs x48.toNatClampNeg).toInt) rfl (xs x50.toNatClampNeg) ((xs x50.toNatClampNeg).toInt) rfl hI2 hI22) cw_RL_49 (jc_0 cI cL ad σ τ) rfl ⟨Nat.le_of_ble_eq_true rfl, Nat.le_of_ble_eq_true rfl⟩ rfl rfl rfl hl.1 rfl (Nat.le_of_ble_eq_true rfl) dL_law_456 ⟨Nat.le_of_ble_eq_true rfl, Nat.le_of_ble_eq_true rfl⟩ (fun r53 σ52 τ52 H locs h52 hP hS => ?_)
  obtain ⟨rfl, f54, h52⟩ := h52
  refine lv_pop hx hb dL_law_459 rfl ?_
  refine lv_aload_n hx hb dL_law_460 rfl (lv_at hl 1 rfl) ?_
  refine lv_aload_n hx hb dL_law_461 rfl (lv_at hl 3 rfl) ?_
  refine lv_iload_n hx hb dL_law_462 rfl (lv_at hl 0 rfl) ?_
  refine lv_iconst (v := 1) hx hb dL_law_463 (by decide) ?_
  refine lv_iadd hx hb dL_law_464 ?_
  refine jtopr ex46.symm ?_
  refine va_sld hx hb hX hbl hbA hS (jin tx46 (by omega) (by omega)) dL_law_465 ?_
  refine lv_aload_n hx hb dL_law_466 rfl (lv_at hl 3 rfl) ?_
  refine lv_iload_n hx hb dL_law_467 rfl (lv_at hl 0 rfl) ?_
  refine lv_iconst (v := 2) hx hb dL_law_468 (by decide) ?_
  refine lv_iadd hx hb dL_law_469 ?_
  refine jtopr ex48.symm ?_
  refine va_sld hx hb hX hbl hbA hS (jin tx48 (by omega) (by omega)) dL_law_470 ?_
  refine lv_aload_n hx hb dL_law_471 rfl (lv_at hl 3 rfl) ?_
  refine lv_iload_n hx hb dL_law_472 rfl (lv_at hl 0 rfl) ?_
  refine lv_iconst (v := 3) hx hb dL_law_473 (by decide) ?_
  refine lv_iadd hx hb dL_law_474 ?_
  refine jtopr ex50.symm ?_
  refine va_sld hx hb hX hbl hbA hS (jin tx50 (by omega) (by omega)) dL_law_475 ?_
  have I56 : jI101 σ52 := jI101_fr (congrFun (f54 55 (by decide)) 4) (congrFun (f54 55 (by decide)) 5) (f54 56 (by decide)) (f54 57 (by decide)) (f54 58 (by decide)) (f54 59 (by decide)) hI101
  have I57 : jI102 σ52 := jI102_fr (congrFun (f54 55 (by decide)) 6) (f54 60 (by decide)) (f54 61 (by decide)) hI102
  have I58 : jI103 σ52 := jI103_fr (congrFun (f54 55 (by decide)) 9) hI103
  have I59 : jI104 σ52 := jI104_fr (congrFun (f54 55 (by decide)) 10) (congrFun (f54 55 (by decide)) 12) (congrFun (f54 55 (by decide)) 13) (f54 62 (by decide)) (f54 67 (by decide)) hI104
  have I60 : jI105 σ52 := jI105_fr (congrFun (f54 55 (by decide)) 15) (f54 65 (by decide)) hI105
  have I61 : jI119 σ52 := jI119_fr (f54 68 (by decide)) hI119
  refine jcallV (As := [.int (xs x46.toNatClampNeg), .int (xs x48.toNatClampNeg), .int (xs x50.toNatClampNeg)]) (rest := []) ⟨hx, hb, hml, hown, hts⟩ hK hP hA hS hZ (c_X12_over l D cI cL ad zz hJ σ52 τ (xs x46.toNatClampNeg) ((xs x46.toNatClampNeg).toInt) rfl (xs x48.toNatClampNeg) ((xs x48.toNatClampNeg).toInt) rfl (xs x50.toNatClampNeg) ((xs x50.toNatClampNeg).toInt) rfl I56 I57 I58 I59 I60 I61) cw_RL_52 (jc_55 cI cL ad σ52 τ) rfl ⟨Nat.le_of_ble_eq_true rfl, Nat.le_of_ble_eq_true rfl⟩ rfl rfl rfl hl.1 rfl (Nat.le_of_ble_eq_true rfl) dL_law_476 ⟨Nat.le_of_ble_eq_true rfl, Nat.le_of_ble_eq_true rfl⟩ (fun r63 σ62 τ62 H locs h62 hP hS => ?_)
  obtain ⟨rfl, f64, f65, I66, h62⟩ := h62
  refine lv_pop hx hb dL_law_479 rfl ?_
  refine lv_goto (tgt := 1357) hx hb dL_law_480 (by decide) ?_
  obtain ⟨x68, ex68⟩ : ∃ y : Int32, y = x0 + 6 := ⟨_, rfl⟩
  have tx68 : x68.toInt = x0.toInt + 6 := (jadd ex68 rfl jz_6 (by omega) (by omega)).trans (by omega)
  refine lv_iinc (v := x68) (lv' := [(3, .int x68), (2, .ref (ad 55)), (1, .ref (ad 0)), (0, .ref b)]) hx hb dL_law_1357 hl (k := 0) rfl (by rw [ex68]; rfl) (by decide) rfl (fun ls hl => ?_)
  refine lv_goto (tgt := 18) hx hb dL_law_1360 (by decide) ?_
  have I69 : jI2 σ62 := jI2_fr ((congrFun (f64 2 (by decide)) 0).trans (congrFun (f54 2 (by decide)) 0)) ((congrFun (f64 2 (by decide)) 1).trans (congrFun (f54 2 (by decide)) 1)) ((congrFun (f64 2 (by decide)) 2).trans (congrFun (f54 2 (by decide)) 2)) ((congrFun (f64 2 (by decide)) 3).trans (congrFun (f54 2 (by decide)) 3)) ((f64 6 (by decide)).trans (f54 6 (by decide))) hI2
  have I70 : jI9 σ62 := jI9_fr ((congrFun (f64 9 (by decide)) 0).trans (congrFun (f54 9 (by decide)) 0)) ((f64 10 (by decide)).trans (f54 10 (by decide))) ((f64 11 (by decide)).trans (f54 11 (by decide))) hI9
  have I71 : jI12 σ62 := jI12_fr ((congrFun (f64 12 (by decide)) 0).trans (congrFun (f54 12 (by decide)) 0)) ((f64 13 (by decide)).trans (f54 13 (by decide))) hI12
  have I72 : jI16 σ62 := jI16_fr ((congrFun (f64 16 (by decide)) 0).trans (congrFun (f54 16 (by decide)) 0)) ((congrFun (f64 16 (by decide)) 1).trans (congrFun (f54 16 (by decide)) 1)) ((congrFun (f64 16 (by decide)) 2).trans (congrFun (f54 16 (by decide)) 2)) ((f64 17 (by decide)).trans (f54 17 (by decide))) hI16
  have I73 : jI18 σ62 := jI18_fr ((congrFun (f64 18 (by decide)) 0).trans (congrFun (f54 18 (by decide)) 0)) ((f64 19 (by decide)).trans (f54 19 (by decide))) hI18
  have I74 : jI22 σ62 := jI22_fr ((congrFun (f64 22 (by decide)) 0).trans (congrFun (f54 22 (by decide)) 0)) ((f64 23 (by decide)).trans (f54 23 (by decide))) hI22
  have I75 : jI31 σ62 := jI31_fr ((congrFun (f64 31 (by decide)) 8).trans (congrFun (f54 31 (by decide)) 8)) ((f64 33 (by decide)).trans (f54 33 (by decide))) ((f64 36 (by decide)).trans (f54 36 (by decide))) hI31
  have I76 : jI38 σ62 := jI38_fr ((congrFun (f64 38 (by decide)) 0).trans (congrFun (f54 38 (by decide)) 0)) ((congrFun (f64 38 (by decide)) 1).trans (congrFun (f54 38 (by decide)) 1)) ((f64 39 (by decide)).trans (f54 39 (by decide))) hI38
  have I77 : jI43 σ62 := jI43_fr ((congrFun (f64 43 (by decide)) 8).trans (congrFun (f54 43 (by decide)) 8)) hI43
  have I78 : jI47 σ62 := jI47_fr ((congrFun (f64 47 (by decide)) 0).trans (congrFun (f54 47 (by decide)) 0)) ((f64 48 (by decide)).trans (f54 48 (by decide))) ((f64 49 (by decide)).trans (f54 49 (by decide))) hI47
  have I79 : jI50 σ62 := jI50_fr ((f64 52 (by decide)).trans (f54 52 (by decide))) hI50
  have I80 : jI101 σ62 := jI101_fr (f65 4 (by decide)) (f65 5 (by decide)) (f64 56 (by decide)) (f64 57 (by decide)) (f64 58 (by decide)) (f64 59 (by decide)) I56
  have I81 : jI102 σ62 := jI102_fr (f65 6 (by decide)) (f64 60 (by decide)) (f64 61 (by decide)) I57
  have I82 : jI103 σ62 := jI103_fr (f65 9 (by decide)) I58
  have I83 : jI104 σ62 := jI104_fr (f65 10 (by decide)) (f65 12 (by decide)) (f65 13 (by decide)) (f64 62 (by decide)) (f64 67 (by decide)) I59
  have I84 : jI105 σ62 := jI105_fr (f65 15 (by decide)) (f64 65 (by decide)) I60
  have I85 : jI106 σ62 := jI106_fr ((f65 32 (by decide)).trans (congrFun (f54 55 (by decide)) 32)) ((f64 70 (by decide)).trans (f54 70 (by decide))) ((f64 71 (by decide)).trans (f54 71 (by decide))) ((f64 72 (by decide)).trans (f54 72 (by decide))) hI106
  have I86 : jI107 σ62 := jI107_fr ((f65 12 (by decide)).trans (congrFun (f54 55 (by decide)) 12)) ((f65 47 (by decide)).trans (congrFun (f54 55 (by decide)) 47)) ((f64 80 (by decide)).trans (f54 80 (by decide))) hI107
  have I87 : jI109 σ62 := jI109_fr ((f65 50 (by decide)).trans (congrFun (f54 55 (by decide)) 50)) hI109
  have I88 : jI110 σ62 := jI110_fr ((f64 86 (by decide)).trans (f54 86 (by decide))) ((f64 87 (by decide)).trans (f54 87 (by decide))) hI110
  have I89 : jI111 σ62 := jI111_fr ((f64 79 (by decide)).trans (f54 79 (by decide))) hI111
  have p90 : jKept σ62 := jKept.fr ((f64 75 (by decide)).trans (f54 75 (by decide))) ((f64 76 (by decide)).trans (f54 76 (by decide))) ((f64 77 (by decide)).trans (f54 77 (by decide))) hs_jKept
  have p91 : jBook σ62 := jBook.fr ((f65 47 (by decide)).trans (congrFun (f54 55 (by decide)) 47)) ((f65 10 (by decide)).trans (congrFun (f54 55 (by decide)) 10)) ((f64 81 (by decide)).trans (f54 81 (by decide))) hs_jBook
  have z92 : (σ62 2 0).toInt = (σ 2 0).toInt := (congrArg Int32.toInt (show σ62 2 0 = (σ 2 0) from ((congrFun (f64 2 (by decide)) 0).trans (congrFun (f54 2 (by decide)) 0))))
  have z93 : (σ62 55 6).toInt = (σ 55 6).toInt := (congrArg Int32.toInt (show σ62 55 6 = (σ 55 6) from ((f65 6 (by decide)).trans (congrFun (f54 55 (by decide)) 6))))
  have z94 : (σ62 2 2).toInt = (σ 2 2).toInt := (congrArg Int32.toInt (show σ62 2 2 = (σ 2 2) from ((congrFun (f64 2 (by decide)) 2).trans (congrFun (f54 2 (by decide)) 2))))
  have z95 : (σ62 55 5).toInt = (σ 55 5).toInt := (congrArg Int32.toInt (show σ62 55 5 = (σ 55 5) from ((f65 5 (by decide)).trans (congrFun (f54 55 (by decide)) 5))))
  have z96 : (σ62 2 3).toInt = (σ 2 3).toInt := (congrArg Int32.toInt (show σ62 2 3 = (σ 2 3) from ((congrFun (f64 2 (by decide)) 3).trans (congrFun (f54 2 (by decide)) 3))))
  have z97 : (σ62 55 4).toInt = (σ 55 4).toInt := (congrArg Int32.toInt (show σ62 55 4 = (σ 55 4) from ((f65 4 (by decide)).trans (congrFun (f54 55 (by decide)) 4))))
  have z98 : (σ62 9 0).toInt = (σ 9 0).toInt := (congrArg Int32.toInt (show σ62 9 0 = (σ 9 0) from ((congrFun (f64 9 (by decide)) 0).trans (congrFun (f54 9 (by decide)) 0))))
  have z99 : (σ62 55 15).toInt = (σ 55 15).toInt := (congrArg Int32.toInt (show σ62 55 15 = (σ 55 15) from ((f65 15 (by decide)).trans (congrFun (f54 55 (by decide)) 15))))
  have z100 : (σ62 16 0).toInt = (σ 16 0).toInt := (congrArg Int32.toInt (show σ62 16 0 = (σ 16 0) from ((congrFun (f64 16 (by decide)) 0).trans (congrFun (f54 16 (by decide)) 0))))
  have z101 : (σ62 55 10).toInt = (σ 55 10).toInt := (congrArg Int32.toInt (show σ62 55 10 = (σ 55 10) from ((f65 10 (by decide)).trans (congrFun (f54 55 (by decide)) 10))))
  have z102 : (σ62 16 1).toInt = (σ 16 1).toInt := (congrArg Int32.toInt (show σ62 16 1 = (σ 16 1) from ((congrFun (f64 16 (by decide)) 1).trans (congrFun (f54 16 (by decide)) 1))))
  have z103 : (σ62 55 12).toInt = (σ 55 12).toInt := (congrArg Int32.toInt (show σ62 55 12 = (σ 55 12) from ((f65 12 (by decide)).trans (congrFun (f54 55 (by decide)) 12))))
  have z104 : (σ62 16 2).toInt = (σ 16 2).toInt := (congrArg Int32.toInt (show σ62 16 2 = (σ 16 2) from ((congrFun (f64 16 (by decide)) 2).trans (congrFun (f54 16 (by decide)) 2))))
  have z105 : (σ62 55 13).toInt = (σ 55 13).toInt := (congrArg Int32.toInt (show σ62 55 13 = (σ 55 13) from ((f65 13 (by decide)).trans (congrFun (f54 55 (by decide)) 13))))
  have z106 : (σ62 38 0).toInt = (σ 38 0).toInt := (congrArg Int32.toInt (show σ62 38 0 = (σ 38 0) from ((congrFun (f64 38 (by decide)) 0).trans (congrFun (f54 38 (by decide)) 0))))
  have z107 : (σ62 55 32).toInt = (σ 55 32).toInt := (congrArg Int32.toInt (show σ62 55 32 = (σ 55 32) from ((f65 32 (by decide)).trans (congrFun (f54 55 (by decide)) 32))))
  have z108 : (σ62 47 0).toInt = (σ 47 0).toInt := (congrArg Int32.toInt (show σ62 47 0 = (σ 47 0) from ((congrFun (f64 47 (by decide)) 0).trans (congrFun (f54 47 (by decide)) 0))))
  have z109 : (σ62 55 47).toInt = (σ 55 47).toInt := (congrArg Int32.toInt (show σ62 55 47 = (σ 55 47) from ((f65 47 (by decide)).trans (congrFun (f54 55 (by decide)) 47))))
  have z110 : (σ62 55 30).toInt = (σ 55 30).toInt := (congrArg Int32.toInt (show σ62 55 30 = (σ 55 30) from ((f65 30 (by decide)).trans (congrFun (f54 55 (by decide)) 30))))
  have z111 : (σ62 55 31).toInt = (σ 55 31).toInt := (congrArg Int32.toInt (show σ62 55 31 = (σ 55 31) from ((f65 31 (by decide)).trans (congrFun (f54 55 (by decide)) 31))))
  exact ih x68 σ62 τ _ _ ls (by have h9 := tx68; omega) ⟨I69, I70, I71, I72, I73, I74, I75, I76, I77, I78, I79, I80, I81, I82, I83, I84, I85, I86, I87, I88, I89, I66, p90, p91, (by omega), (by omega), (by omega), (by omega), (by omega), (by omega), (by omega), (by omega), (by omega), (by omega), (by omega), (show jNumP (σ62 3) (σ62 56) (σ62 6) (σ62 57) (σ62 7) (σ62 58) (σ62 8) (σ62 59) (σ62 55 6).toInt (σ62 55 4).toInt by rw [show σ62 3 = σ 3 from ((f64 3 (by decide)).trans (f54 3 (by decide))), show σ62 56 = σ 56 from ((f64 56 (by decide)).trans (f54 56 (by decide))), show σ62 6 = σ 6 from ((f64 6 (by decide)).trans (f54 6 (by decide))), show σ62 57 = σ 57 from ((f64 57 (by decide)).trans (f54 57 (by decide))), show σ62 7 = σ 7 from ((f64 7 (by decide)).trans (f54 7 (by decide))), show σ62 58 = σ 58 from ((f64 58 (by decide)).trans (f54 58 (by decide))), show σ62 8 = σ 8 from ((f64 8 (by decide)).trans (f54 8 (by decide))), show σ62 59 = σ 59 from ((f64 59 (by decide)).trans (f54 59 (by decide))), show (σ62 55 6).toInt = (σ 55 6).toInt from by omega, show (σ62 55 4).toInt = (σ 55 4).toInt from by omega]; exact hr0), (show jOvP (σ62 56) (σ62 57) (σ62 58) (σ62 59) (σ62 55 4).toInt by rw [show σ62 56 = σ 56 from ((f64 56 (by decide)).trans (f54 56 (by decide))), show σ62 57 = σ 57 from ((f64 57 (by decide)).trans (f54 57 (by decide))), show σ62 58 = σ 58 from ((f64 58 (by decide)).trans (f54 58 (by decide))), show σ62 59 = σ 59 from ((f64 59 (by decide)).trans (f54 59 (by decide))), show (σ62 55 4).toInt = (σ 55 4).toInt from by omega]; exact hr1), (show jTp (σ62 10) (σ62 63) (σ62 55 15).toInt by rw [show σ62 10 = σ 10 from ((f64 10 (by decide)).trans (f54 10 (by decide))), show σ62 63 = σ 63 from ((f64 63 (by decide)).trans (f54 63 (by decide)))]; exact hr2.le (by omega)), (show jSo (σ62 17) (σ62 62) (σ62 16 0).toInt by rw [show σ62 17 = σ 17 from ((f64 17 (by decide)).trans (f54 17 (by decide))), show σ62 62 = σ 62 from ((f64 62 (by decide)).trans (f54 62 (by decide))), show (σ62 16 0).toInt = (σ 16 0).toInt from by omega]; exact hr3), (show jShP (σ62 51) (σ62 52) (σ62 53) (σ62 86) (σ62 87) (σ62 55 32).toInt by rw [show σ62 51 = σ 51 from ((f64 51 (by decide)).trans (f54 51 (by decide))), show σ62 52 = σ 52 from ((f64 52 (by decide)).trans (f54 52 (by decide))), show σ62 53 = σ 53 from ((f64 53 (by decide)).trans (f54 53 (by decide))), show σ62 86 = σ 86 from ((f64 86 (by decide)).trans (f54 86 (by decide))), show σ62 87 = σ 87 from ((f64 87 (by decide)).trans (f54 87 (by decide)))]; exact (hr4.up (by omega) (by omega))), (show jEl (σ62 51) (σ62 52) (τ 54) (τ 88) by rw [show σ62 51 = σ 51 from ((f64 51 (by decide)).trans (f54 51 (by decide))), show σ62 52 = σ 52 from ((f64 52 (by decide)).trans (f54 52 (by decide)))]; exact hr5), (show jByP (σ62 51) (σ62 52) (τ 54) by rw [show σ62 51 = σ 51 from ((f64 51 (by decide)).trans (f54 51 (by decide))), show σ62 52 = σ 52 from ((f64 52 (by decide)).trans (f54 52 (by decide)))]; exact hr6), (show jBk (σ62 48) (σ62 80) (σ62 49) (σ62 81) (σ62 55 47).toInt by rw [show σ62 48 = σ 48 from ((f64 48 (by decide)).trans (f54 48 (by decide))), show σ62 49 = σ 49 from ((f64 49 (by decide)).trans (f54 49 (by decide))), show σ62 80 = σ 80 from ((f64 80 (by decide)).trans (f54 80 (by decide))), show σ62 81 = σ 81 from ((f64 81 (by decide)).trans (f54 81 (by decide))), show (σ62 55 47).toInt = (σ 55 47).toInt from by omega]; exact hr7)⟩ hP hS (lv_sub hl [0, 1, 2, 3] rfl)
set_option maxHeartbeats 4000000 in
set_option maxRecDepth 100000 in
theorem law_case_9 {p : Program} {e : Env} {s : State} {m : MethodId} {below : List Frame} {meth : Method} {c : Code} (l : Launch) {b L : Nat} {xs : Nat → Int32} {D : va_G} {cI cL : ClassId} {ad zz : Nat → Nat} (C0 : lw_At p s m meth c b L xs) (hJ : jD ad) (hA : ∀ q, jA ad q → s.heap.size ≤ q) (hK : jK D cI cL s) (hZ : jZ zz (fun q : Nat => s.heap.size ≤ q) s s.heap) {x0 : Int32} (hx0 : 0 ≤ x0.toInt) (hxL : x0.toInt + 6 ≤ (L : Int)) (hL : L ≤ 384) {σ : Nat → Nat → Int32} {τ : Nat → Nat → Int64} {H : Heap} {locs : List Loc} (hS : va_S (fun q : Nat => s.heap.size ≤ q) s.heap H locs) {ls : Array Slot} (hAll : jAll σ τ) (hP : jH D cI cL ad σ τ H) (hl : lv_has ls 4 [(3, .int x0), (2, .ref (ad 55)), (1, .ref (ad 0)), (0, .ref b)]) (ih : ∀ (x1 : Int32) (σ : Nat → Nat → Int32) (τ : Nat → Nat → Int64) (H : Heap) (locs : List Loc) (ls : Array Slot), x1.toInt = x0.toInt + 6 → jAll σ τ → jH D cI cL ad σ τ H → va_S (fun q : Nat => s.heap.size ≤ q) s.heap H locs → lv_has ls 4 [(3, .int x1), (2, .ref (ad 55)), (1, .ref (ad 0)), (0, .ref b)] → W p l e room_1 s m #[Value.ref b] below meth c H locs 90 348600 (lw_Z below #[Value.ref b] s) (F0 m 18 ls [])) : W p l e room_1 s m #[Value.ref b] below meth c H locs 90 348600 (lw_Z below #[Value.ref b] s) (F0 m 483 ls []) := by
  obtain ⟨hx, hb, hr, hml, hown, hts0, hX, hbl, hlocks, hgv⟩ := C0
  have hts : ∀ w ∈ wsL_law, w.before #[Value.ref b] s = true := fun w h => hts0 w (wsL_law_in w h)
  have hbA : ¬ (fun q : Nat => s.heap.size ≤ q) b := Nat.not_le.mpr hbl
  have hown : s.vm.findClass RL = some m.cls := hown
  obtain ⟨hI2, hI9, hI12, hI16, hI18, hI22, hI31, hI38, hI43, hI47, hI50, hI101, hI102, hI103, hI104, hI105, hI106, hI107, hI109, hI110, hI111, hI119, hs_jKept, hs_jBook, ht0, ht1, ht2, ht3, ht4, ht5, ht6, ht7, ht8, ht9, ht10, hr0, hr1, hr2, hr3, hr4, hr5, hr6, hr7⟩ := hAll
  have hL9 : (L : Int) ≤ 384 := by omega
  obtain ⟨i1, i2, i3, i4, i5, w6⟩ : (0 ≤ (σ 2 0).toInt ∧ (σ 2 0).toInt ≤ 4) ∧ (0 ≤ (σ 2 1).toInt ∧ (σ 2 1).toInt ≤ 3) ∧ (0 ≤ (σ 2 2).toInt) ∧ (0 ≤ (σ 2 3).toInt) ∧ ((σ 2 2).toInt + (σ 2 3).toInt ≤ 40) ∧ (∀ k : Nat, k < 40 → 0 ≤ (σ 6 k).toInt ∧ (σ 6 k).toInt ≤ 67) := id hI2
  obtain ⟨i7, w8, w9⟩ : (0 ≤ (σ 9 0).toInt ∧ (σ 9 0).toInt ≤ 80) ∧ (∀ k : Nat, k < 80 → 0 ≤ (σ 10 k).toInt ∧ (σ 10 k).toInt ≤ 255) ∧ (∀ k : Nat, k < 8 → 0 ≤ (σ 11 k).toInt ∧ (σ 11 k).toInt ≤ 3) := id hI9
  obtain ⟨i10, i11, i12, w13⟩ : (1 ≤ (σ 16 0).toInt ∧ (σ 16 0).toInt ≤ 8) ∧ (1 ≤ (σ 16 1).toInt ∧ (σ 16 1).toInt ≤ 12) ∧ (0 ≤ (σ 16 2).toInt ∧ (σ 16 2).toInt ≤ 999) ∧ (∀ k : Nat, k < 8 → 0 ≤ (σ 17 k).toInt ∧ (σ 17 k).toInt ≤ 3) := id hI16
  obtain ⟨i14, i15, w16⟩ : (0 ≤ (σ 38 0).toInt ∧ (σ 38 0).toInt ≤ 20) ∧ (0 ≤ (σ 38 1).toInt ∧ (σ 38 1).toInt ≤ 1000) ∧ (∀ k : Nat, k < 20 → 0 ≤ (σ 39 k).toInt ∧ (σ 39 k).toInt ≤ 6) := id hI38
  obtain ⟨i17, w18, w19⟩ : (0 ≤ (σ 47 0).toInt ∧ (σ 47 0).toInt ≤ 12) ∧ (∀ k : Nat, k < 12 → 0 ≤ (σ 48 k).toInt ∧ (σ 48 k).toInt ≤ 3) ∧ (∀ k : Nat, k < 12 → 0 ≤ (σ 49 k).toInt ∧ (σ 49 k).toInt ≤ 1) := id hI47
  have w20 : ∀ k : Nat, k < 6 → 0 ≤ (σ 52 k).toInt ∧ (σ 52 k).toInt ≤ 60 := hI50
  obtain ⟨i21, i22, i23, w24, w25, w26, w27⟩ : (0 ≤ (σ 55 5).toInt) ∧ ((σ 55 5).toInt ≤ (σ 55 4).toInt) ∧ ((σ 55 4).toInt ≤ 40) ∧ (∀ k : Nat, k < 68 → (-200) ≤ (σ 56 k).toInt ∧ (σ 56 k).toInt ≤ 500) ∧ (∀ k : Nat, k < 40 → 0 ≤ (σ 57 k).toInt ∧ (σ 57 k).toInt ≤ 67) ∧ (∀ k : Nat, k < 40 → (-200) ≤ (σ 58 k).toInt ∧ (σ 58 k).toInt ≤ 500) ∧ (∀ k : Nat, k < 40 → (-200) ≤ (σ 59 k).toInt ∧ (σ 59 k).toInt ≤ 500) := id hI101
  obtain ⟨i28, w29, w30⟩ : (0 ≤ (σ 55 6).toInt ∧ (σ 55 6).toInt ≤ 4) ∧ (∀ k : Nat, k < 4 → 0 ≤ (σ 60 k).toInt ∧ (σ 60 k).toInt ≤ 50) ∧ (∀ k : Nat, k < 4 → 0 ≤ (σ 61 k).toInt ∧ (σ 61 k).toInt ≤ 20) := id hI102
  obtain ⟨i31, i32, i33, w34, w35⟩ : (1 ≤ (σ 55 10).toInt ∧ (σ 55 10).toInt ≤ 8) ∧ (1 ≤ (σ 55 12).toInt ∧ (σ 55 12).toInt ≤ 12) ∧ (0 ≤ (σ 55 13).toInt ∧ (σ 55 13).toInt ≤ 999) ∧ (∀ k : Nat, k < 8 → 0 ≤ (σ 62 k).toInt ∧ (σ 62 k).toInt ≤ 3) ∧ (∀ k : Nat, k < 8 → 0 ≤ (σ 67 k).toInt ∧ (σ 67 k).toInt ≤ 3) := id hI104
  obtain ⟨i36, w37⟩ : (0 ≤ (σ 55 15).toInt ∧ (σ 55 15).toInt ≤ 80) ∧ (∀ k : Nat, k < 2 → (-1) ≤ (σ 65 k).toInt ∧ (σ 65 k).toInt ≤ 80) := id hI105
  obtain ⟨i38, w39, w40, w41⟩ : (0 ≤ (σ 55 32).toInt ∧ (σ 55 32).toInt ≤ 20) ∧ (∀ k : Nat, k < 20 → 0 ≤ (σ 70 k).toInt ∧ (σ 70 k).toInt ≤ 6) ∧ (∀ k : Nat, k < 20 → 0 ≤ (σ 71 k).toInt ∧ (σ 71 k).toInt ≤ 8) ∧ (∀ k : Nat, k < 160 → 0 ≤ (σ 72 k).toInt ∧ (σ 72 k).toInt ≤ 3) := id hI106
  obtain ⟨i42, i43, w44⟩ : (0 ≤ (σ 55 47).toInt ∧ (σ 55 47).toInt ≤ 12) ∧ ((σ 55 47).toInt ≤ (σ 55 12).toInt) ∧ (∀ k : Nat, k < 12 → 0 ≤ (σ 80 k).toInt ∧ (σ 80 k).toInt ≤ 3) := id hI107
  refine lv_aload_n hx hb dL_law_483 rfl (lv_at hl 2 rfl) ?_
  refine lv_aload_n hx hb dL_law_484 rfl (lv_at hl 3 rfl) ?_
  refine lv_iload_n hx hb dL_law_485 rfl (lv_at hl 0 rfl) ?_
  refine lv_iconst (v := 1) hx hb dL_law_486 (by decide) ?_
  have g45 := jrg (rfl : x0.toInt = x0.toInt)
  refine lv_iadd hx hb dL_law_487 ?_
  refine lv_topi (fun x46 ex46 => ?_)
  have tx46 : x46.toInt = x0.toInt + 1 := (jadd ex46 rfl jz_1 (by omega) (by omega)).trans (by omega)
  refine va_sld hx hb hX hbl hbA hS (jin tx46 (by omega) (by omega)) dL_law_488 ?_
  have g47 := jrg (rfl : (xs x46.toNatClampNeg).toInt = (xs x46.toNatClampNeg).toInt)
  refine lv_aload_n hx hb dL_law_489 rfl (lv_at hl 3 rfl) ?_
  refine lv_iload_n hx hb dL_law_490 rfl (lv_at hl 0 rfl) ?_
  refine lv_iconst (v := 2) hx hb dL_law_491 (by decide) ?_
  refine lv_iadd hx hb dL_law_492 ?_
  refine lv_topi (fun x48 ex48 => ?_)
  have tx48 : x48.toInt = x0.toInt + 2 := (jadd ex48 rfl jz_2 (by omega) (by omega)).trans (by omega)
  refine va_sld hx hb hX hbl hbA hS (jin tx48 (by omega) (by omega)) dL_law_493 ?_
  have g49 := jrg (rfl : (xs x48.toNatClampNeg).toInt = (xs x48.toNatClampNeg).toInt)
  refine lv_aload_n hx hb dL_law_494 rfl (lv_at hl 3 rfl) ?_
  refine lv_iload_n hx hb dL_law_495 rfl (lv_at hl 0 rfl) ?_
  refine lv_iconst (v := 3) hx hb dL_law_496 (by decide) ?_
  refine lv_iadd hx hb dL_law_497 ?_
  refine lv_topi (fun x50 ex50 => ?_)
  have tx50 : x50.toInt = x0.toInt + 3 := (jadd ex50 rfl jz_3 (by omega) (by omega)).trans (by omega)
  refine va_sld hx hb hX hbl hbA hS (jin tx50 (by omega) (by omega)) dL_law_498 ?_
  have g51 := jrg (rfl : (xs x50.toNatClampNeg).toInt = (xs x50.toNatClampNeg).toInt)
  refine jcallV (As := [.int (xs x46.toNatClampNeg), .int (xs x48.toNatClampNeg), .int (xs x50.toNatClampNeg)]) (rest := []) ⟨hx, hb, hml, hown, hts⟩ hK hP hA hS hZ (c_X11_rule l D cI cL ad zz hJ σ τ (xs x46.toNatClampNeg) ((xs x46.toNatClampNeg).toInt) rfl (xs x48.toNatClampNeg) ((xs x48.toNatClampNeg).toInt) rfl (xs x50.toNatClampNeg) ((xs x50.toNatClampNeg).toInt) rfl hI38) cw_RL_53 (jc_0 cI cL ad σ τ) rfl ⟨Nat.le_of_ble_eq_true rfl, Nat.le_of_ble_eq_true rfl⟩ rfl rfl rfl hl.1 rfl (Nat.le_of_ble_eq_true rfl) dL_law_499 ⟨Nat.le_of_ble_eq_true rfl, Nat.le_of_ble_eq_true rfl⟩ (fun r53 σ52 τ52 H locs h52 hP hS => ?_)
  obtain ⟨rfl, f54, f55, I56, h52⟩ := h52
  obtain ⟨i58, i59, w60⟩ : (0 ≤ (σ52 38 0).toInt ∧ (σ52 38 0).toInt ≤ 20) ∧ (0 ≤ (σ52 38 1).toInt ∧ (σ52 38 1).toInt ≤ 1000) ∧ (∀ k : Nat, k < 20 → 0 ≤ (σ52 39 k).toInt ∧ (σ52 39 k).toInt ≤ 6) := id I56
  have z61 : (σ52 38 1).toInt = (σ 38 1).toInt := (congrArg Int32.toInt (show σ52 38 1 = (σ 38 1) from (f55 1 (by decide))))
  rcases h52 with h62 | h63 | h64
  · obtain ⟨q68, k65, k66, k67⟩ := h62
    have q68 := q68.symm
    subst q68
    refine lv_pop hx hb dL_law_502 rfl ?_
    refine lv_aload_n hx hb dL_law_503 rfl (lv_at hl 1 rfl) ?_
    refine lv_aload_n hx hb dL_law_504 rfl (lv_at hl 3 rfl) ?_
    refine lv_iload_n hx hb dL_law_505 rfl (lv_at hl 0 rfl) ?_
    refine lv_iconst (v := 1) hx hb dL_law_506 (by decide) ?_
    refine lv_iadd hx hb dL_law_507 ?_
    refine jtopr ex46.symm ?_
    refine va_sld hx hb hX hbl hbA hS (jin tx46 (by omega) (by omega)) dL_law_508 ?_
    refine lv_aload_n hx hb dL_law_509 rfl (lv_at hl 3 rfl) ?_
    refine lv_iload_n hx hb dL_law_510 rfl (lv_at hl 0 rfl) ?_
    refine lv_iconst (v := 2) hx hb dL_law_511 (by decide) ?_
    refine lv_iadd hx hb dL_law_512 ?_
    refine jtopr ex48.symm ?_
    refine va_sld hx hb hX hbl hbA hS (jin tx48 (by omega) (by omega)) dL_law_513 ?_
    refine lv_aload_n hx hb dL_law_514 rfl (lv_at hl 3 rfl) ?_
    refine lv_iload_n hx hb dL_law_515 rfl (lv_at hl 0 rfl) ?_
    refine lv_iconst (v := 3) hx hb dL_law_516 (by decide) ?_
    refine lv_iadd hx hb dL_law_517 ?_
    refine jtopr ex50.symm ?_
    refine va_sld hx hb hX hbl hbA hS (jin tx50 (by omega) (by omega)) dL_law_518 ?_
    have I69 : jI106 σ52 := jI106_fr (congrFun (f54 55 (by decide)) 32) (f54 70 (by decide)) (f54 71 (by decide)) (f54 72 (by decide)) hI106
    have z70 : (σ52 55 32).toInt = (σ 55 32).toInt := (congrArg Int32.toInt (show σ52 55 32 = (σ 55 32) from (congrFun (f54 55 (by decide)) 32)))
    refine jcallV (As := [.int (xs x46.toNatClampNeg), .int (xs x48.toNatClampNeg), .int (xs x50.toNatClampNeg)]) (rest := []) ⟨hx, hb, hml, hown, hts⟩ hK hP hA hS hZ (c_X12_rule l D cI cL ad zz hJ σ52 τ (xs x46.toNatClampNeg) ((xs x46.toNatClampNeg).toInt) rfl (xs x48.toNatClampNeg) ((xs x48.toNatClampNeg).toInt) rfl (xs x50.toNatClampNeg) ((xs x50.toNatClampNeg).toInt) rfl I69) cw_RL_56 (jc_55 cI cL ad σ52 τ) rfl ⟨Nat.le_of_ble_eq_true rfl, Nat.le_of_ble_eq_true rfl⟩ rfl rfl rfl hl.1 rfl (Nat.le_of_ble_eq_true rfl) dL_law_519 ⟨Nat.le_of_ble_eq_true rfl, Nat.le_of_ble_eq_true rfl⟩ (fun r72 σ71 τ71 H locs h71 hP hS => ?_)
    obtain ⟨rfl, f73, f74, I75, h71⟩ := h71
    obtain ⟨i77, w78, w79, w80⟩ : (0 ≤ (σ71 55 32).toInt ∧ (σ71 55 32).toInt ≤ 20) ∧ (∀ k : Nat, k < 20 → 0 ≤ (σ71 70 k).toInt ∧ (σ71 70 k).toInt ≤ 6) ∧ (∀ k : Nat, k < 20 → 0 ≤ (σ71 71 k).toInt ∧ (σ71 71 k).toInt ≤ 8) ∧ (∀ k : Nat, k < 160 → 0 ≤ (σ71 72 k).toInt ∧ (σ71 72 k).toInt ≤ 3) := id I75
    rcases h71 with h81 | h82 | h83
    · obtain ⟨q87, k84, k85, k86⟩ := h81
      have q87 := q87.symm
      subst q87
      refine lv_pop hx hb dL_law_522 rfl ?_
      refine lv_goto (tgt := 1357) hx hb dL_law_523 (by decide) ?_
      obtain ⟨x88, ex88⟩ : ∃ y : Int32, y = x0 + 6 := ⟨_, rfl⟩
      have tx88 : x88.toInt = x0.toInt + 6 := (jadd ex88 rfl jz_6 (by omega) (by omega)).trans (by omega)
      refine lv_iinc (v := x88) (lv' := [(3, .int x88), (2, .ref (ad 55)), (1, .ref (ad 0)), (0, .ref b)]) hx hb dL_law_1357 hl (k := 0) rfl (by rw [ex88]; rfl) (by decide) rfl (fun ls hl => ?_)
      refine lv_goto (tgt := 18) hx hb dL_law_1360 (by decide) ?_
      have I89 : jI2 σ71 := jI2_fr ((congrFun (f73 2 (by decide)) 0).trans (congrFun (f54 2 (by decide)) 0)) ((congrFun (f73 2 (by decide)) 1).trans (congrFun (f54 2 (by decide)) 1)) ((congrFun (f73 2 (by decide)) 2).trans (congrFun (f54 2 (by decide)) 2)) ((congrFun (f73 2 (by decide)) 3).trans (congrFun (f54 2 (by decide)) 3)) ((f73 6 (by decide)).trans (f54 6 (by decide))) hI2
      have I90 : jI9 σ71 := jI9_fr ((congrFun (f73 9 (by decide)) 0).trans (congrFun (f54 9 (by decide)) 0)) ((f73 10 (by decide)).trans (f54 10 (by decide))) ((f73 11 (by decide)).trans (f54 11 (by decide))) hI9
      have I91 : jI12 σ71 := jI12_fr ((congrFun (f73 12 (by decide)) 0).trans (congrFun (f54 12 (by decide)) 0)) ((f73 13 (by decide)).trans (f54 13 (by decide))) hI12
      have I92 : jI16 σ71 := jI16_fr ((congrFun (f73 16 (by decide)) 0).trans (congrFun (f54 16 (by decide)) 0)) ((congrFun (f73 16 (by decide)) 1).trans (congrFun (f54 16 (by decide)) 1)) ((congrFun (f73 16 (by decide)) 2).trans (congrFun (f54 16 (by decide)) 2)) ((f73 17 (by decide)).trans (f54 17 (by decide))) hI16
      have I93 : jI18 σ71 := jI18_fr ((congrFun (f73 18 (by decide)) 0).trans (congrFun (f54 18 (by decide)) 0)) ((f73 19 (by decide)).trans (f54 19 (by decide))) hI18
      have I94 : jI22 σ71 := jI22_fr ((congrFun (f73 22 (by decide)) 0).trans (congrFun (f54 22 (by decide)) 0)) ((f73 23 (by decide)).trans (f54 23 (by decide))) hI22
      have I95 : jI31 σ71 := jI31_fr ((congrFun (f73 31 (by decide)) 8).trans (congrFun (f54 31 (by decide)) 8)) ((f73 33 (by decide)).trans (f54 33 (by decide))) ((f73 36 (by decide)).trans (f54 36 (by decide))) hI31
      have I96 : jI38 σ71 := jI38_fr (congrFun (f73 38 (by decide)) 0) (congrFun (f73 38 (by decide)) 1) (f73 39 (by decide)) I56
      have I97 : jI43 σ71 := jI43_fr ((congrFun (f73 43 (by decide)) 8).trans (congrFun (f54 43 (by decide)) 8)) hI43
      have I98 : jI47 σ71 := jI47_fr ((congrFun (f73 47 (by decide)) 0).trans (congrFun (f54 47 (by decide)) 0)) ((f73 48 (by decide)).trans (f54 48 (by decide))) ((f73 49 (by decide)).trans (f54 49 (by decide))) hI47
      have I99 : jI50 σ71 := jI50_fr ((f73 52 (by decide)).trans (f54 52 (by decide))) hI50
      have I100 : jI101 σ71 := jI101_fr ((f74 4 (by decide)).trans (congrFun (f54 55 (by decide)) 4)) ((f74 5 (by decide)).trans (congrFun (f54 55 (by decide)) 5)) ((f73 56 (by decide)).trans (f54 56 (by decide))) ((f73 57 (by decide)).trans (f54 57 (by decide))) ((f73 58 (by decide)).trans (f54 58 (by decide))) ((f73 59 (by decide)).trans (f54 59 (by decide))) hI101
      have I101 : jI102 σ71 := jI102_fr ((f74 6 (by decide)).trans (congrFun (f54 55 (by decide)) 6)) ((f73 60 (by decide)).trans (f54 60 (by decide))) ((f73 61 (by decide)).trans (f54 61 (by decide))) hI102
      have I102 : jI103 σ71 := jI103_fr ((f74 9 (by decide)).trans (congrFun (f54 55 (by decide)) 9)) hI103
      have I103 : jI104 σ71 := jI104_fr ((f74 10 (by decide)).trans (congrFun (f54 55 (by decide)) 10)) ((f74 12 (by decide)).trans (congrFun (f54 55 (by decide)) 12)) ((f74 13 (by decide)).trans (congrFun (f54 55 (by decide)) 13)) ((f73 62 (by decide)).trans (f54 62 (by decide))) ((f73 67 (by decide)).trans (f54 67 (by decide))) hI104
      have I104 : jI105 σ71 := jI105_fr ((f74 15 (by decide)).trans (congrFun (f54 55 (by decide)) 15)) ((f73 65 (by decide)).trans (f54 65 (by decide))) hI105
      have I105 : jI107 σ71 := jI107_fr ((f74 12 (by decide)).trans (congrFun (f54 55 (by decide)) 12)) ((f74 47 (by decide)).trans (congrFun (f54 55 (by decide)) 47)) ((f73 80 (by decide)).trans (f54 80 (by decide))) hI107
      have I106 : jI109 σ71 := jI109_fr ((f74 50 (by decide)).trans (congrFun (f54 55 (by decide)) 50)) hI109
      have I107 : jI110 σ71 := jI110_fr ((f73 86 (by decide)).trans (f54 86 (by decide))) ((f73 87 (by decide)).trans (f54 87 (by decide))) hI110
      have I108 : jI111 σ71 := jI111_fr ((f73 79 (by decide)).trans (f54 79 (by decide))) hI111
      have I109 : jI119 σ71 := jI119_fr ((f73 68 (by decide)).trans (f54 68 (by decide))) hI119
      have p110 : jKept σ71 := jKept.fr ((f73 75 (by decide)).trans (f54 75 (by decide))) ((f73 76 (by decide)).trans (f54 76 (by decide))) ((f73 77 (by decide)).trans (f54 77 (by decide))) hs_jKept
      have p111 : jBook σ71 := jBook.fr ((f74 47 (by decide)).trans (congrFun (f54 55 (by decide)) 47)) ((f74 10 (by decide)).trans (congrFun (f54 55 (by decide)) 10)) ((f73 81 (by decide)).trans (f54 81 (by decide))) hs_jBook
      have z112 : (σ71 2 0).toInt = (σ 2 0).toInt := (congrArg Int32.toInt (show σ71 2 0 = (σ 2 0) from ((congrFun (f73 2 (by decide)) 0).trans (congrFun (f54 2 (by decide)) 0))))
      have z113 : (σ71 55 6).toInt = (σ 55 6).toInt := (congrArg Int32.toInt (show σ71 55 6 = (σ 55 6) from ((f74 6 (by decide)).trans (congrFun (f54 55 (by decide)) 6))))
      have z114 : (σ71 2 2).toInt = (σ 2 2).toInt := (congrArg Int32.toInt (show σ71 2 2 = (σ 2 2) from ((congrFun (f73 2 (by decide)) 2).trans (congrFun (f54 2 (by decide)) 2))))
      have z115 : (σ71 55 5).toInt = (σ 55 5).toInt := (congrArg Int32.toInt (show σ71 55 5 = (σ 55 5) from ((f74 5 (by decide)).trans (congrFun (f54 55 (by decide)) 5))))
      have z116 : (σ71 2 3).toInt = (σ 2 3).toInt := (congrArg Int32.toInt (show σ71 2 3 = (σ 2 3) from ((congrFun (f73 2 (by decide)) 3).trans (congrFun (f54 2 (by decide)) 3))))
      have z117 : (σ71 55 4).toInt = (σ 55 4).toInt := (congrArg Int32.toInt (show σ71 55 4 = (σ 55 4) from ((f74 4 (by decide)).trans (congrFun (f54 55 (by decide)) 4))))
      have z118 : (σ71 9 0).toInt = (σ 9 0).toInt := (congrArg Int32.toInt (show σ71 9 0 = (σ 9 0) from ((congrFun (f73 9 (by decide)) 0).trans (congrFun (f54 9 (by decide)) 0))))
      have z119 : (σ71 55 15).toInt = (σ 55 15).toInt := (congrArg Int32.toInt (show σ71 55 15 = (σ 55 15) from ((f74 15 (by decide)).trans (congrFun (f54 55 (by decide)) 15))))
      have z120 : (σ71 16 0).toInt = (σ 16 0).toInt := (congrArg Int32.toInt (show σ71 16 0 = (σ 16 0) from ((congrFun (f73 16 (by decide)) 0).trans (congrFun (f54 16 (by decide)) 0))))
      have z121 : (σ71 55 10).toInt = (σ 55 10).toInt := (congrArg Int32.toInt (show σ71 55 10 = (σ 55 10) from ((f74 10 (by decide)).trans (congrFun (f54 55 (by decide)) 10))))
      have z122 : (σ71 16 1).toInt = (σ 16 1).toInt := (congrArg Int32.toInt (show σ71 16 1 = (σ 16 1) from ((congrFun (f73 16 (by decide)) 1).trans (congrFun (f54 16 (by decide)) 1))))
      have z123 : (σ71 55 12).toInt = (σ 55 12).toInt := (congrArg Int32.toInt (show σ71 55 12 = (σ 55 12) from ((f74 12 (by decide)).trans (congrFun (f54 55 (by decide)) 12))))
      have z124 : (σ71 16 2).toInt = (σ 16 2).toInt := (congrArg Int32.toInt (show σ71 16 2 = (σ 16 2) from ((congrFun (f73 16 (by decide)) 2).trans (congrFun (f54 16 (by decide)) 2))))
      have z125 : (σ71 55 13).toInt = (σ 55 13).toInt := (congrArg Int32.toInt (show σ71 55 13 = (σ 55 13) from ((f74 13 (by decide)).trans (congrFun (f54 55 (by decide)) 13))))
      have z126 : (σ71 38 0).toInt = (σ52 38 0).toInt := (congrArg Int32.toInt (show σ71 38 0 = (σ52 38 0) from (congrFun (f73 38 (by decide)) 0)))
      have z127 : (σ71 47 0).toInt = (σ 47 0).toInt := (congrArg Int32.toInt (show σ71 47 0 = (σ 47 0) from ((congrFun (f73 47 (by decide)) 0).trans (congrFun (f54 47 (by decide)) 0))))
      have z128 : (σ71 55 47).toInt = (σ 55 47).toInt := (congrArg Int32.toInt (show σ71 55 47 = (σ 55 47) from ((f74 47 (by decide)).trans (congrFun (f54 55 (by decide)) 47))))
      have z129 : (σ71 55 30).toInt = (σ 55 30).toInt := (congrArg Int32.toInt (show σ71 55 30 = (σ 55 30) from ((f74 30 (by decide)).trans (congrFun (f54 55 (by decide)) 30))))
      have z130 : (σ71 55 31).toInt = (σ 55 31).toInt := (congrArg Int32.toInt (show σ71 55 31 = (σ 55 31) from ((f74 31 (by decide)).trans (congrFun (f54 55 (by decide)) 31))))
      exact ih x88 σ71 τ _ _ ls (by have h9 := tx88; omega) ⟨I89, I90, I91, I92, I93, I94, I95, I96, I97, I98, I99, I100, I101, I102, I103, I104, I75, I105, I106, I107, I108, I109, p110, p111, (by omega), (by omega), (by omega), (by omega), (by omega), (by omega), (by omega), (by omega), (by omega), (by omega), (by omega), (show jNumP (σ71 3) (σ71 56) (σ71 6) (σ71 57) (σ71 7) (σ71 58) (σ71 8) (σ71 59) (σ71 55 6).toInt (σ71 55 4).toInt by rw [show σ71 3 = σ 3 from ((f73 3 (by decide)).trans (f54 3 (by decide))), show σ71 56 = σ 56 from ((f73 56 (by decide)).trans (f54 56 (by decide))), show σ71 6 = σ 6 from ((f73 6 (by decide)).trans (f54 6 (by decide))), show σ71 57 = σ 57 from ((f73 57 (by decide)).trans (f54 57 (by decide))), show σ71 7 = σ 7 from ((f73 7 (by decide)).trans (f54 7 (by decide))), show σ71 58 = σ 58 from ((f73 58 (by decide)).trans (f54 58 (by decide))), show σ71 8 = σ 8 from ((f73 8 (by decide)).trans (f54 8 (by decide))), show σ71 59 = σ 59 from ((f73 59 (by decide)).trans (f54 59 (by decide))), show (σ71 55 6).toInt = (σ 55 6).toInt from by omega, show (σ71 55 4).toInt = (σ 55 4).toInt from by omega]; exact hr0), (show jOvP (σ71 56) (σ71 57) (σ71 58) (σ71 59) (σ71 55 4).toInt by rw [show σ71 56 = σ 56 from ((f73 56 (by decide)).trans (f54 56 (by decide))), show σ71 57 = σ 57 from ((f73 57 (by decide)).trans (f54 57 (by decide))), show σ71 58 = σ 58 from ((f73 58 (by decide)).trans (f54 58 (by decide))), show σ71 59 = σ 59 from ((f73 59 (by decide)).trans (f54 59 (by decide))), show (σ71 55 4).toInt = (σ 55 4).toInt from by omega]; exact hr1), (show jTp (σ71 10) (σ71 63) (σ71 55 15).toInt by rw [show σ71 10 = σ 10 from ((f73 10 (by decide)).trans (f54 10 (by decide))), show σ71 63 = σ 63 from ((f73 63 (by decide)).trans (f54 63 (by decide)))]; exact hr2.le (by omega)), (show jSo (σ71 17) (σ71 62) (σ71 16 0).toInt by rw [show σ71 17 = σ 17 from ((f73 17 (by decide)).trans (f54 17 (by decide))), show σ71 62 = σ 62 from ((f73 62 (by decide)).trans (f54 62 (by decide))), show (σ71 16 0).toInt = (σ 16 0).toInt from by omega]; exact hr3), (show jShP (σ71 51) (σ71 52) (σ71 53) (σ71 86) (σ71 87) (σ71 55 32).toInt by rw [show σ71 51 = σ 51 from ((f73 51 (by decide)).trans (f54 51 (by decide))), show σ71 52 = σ 52 from ((f73 52 (by decide)).trans (f54 52 (by decide))), show σ71 53 = σ 53 from ((f73 53 (by decide)).trans (f54 53 (by decide))), show σ71 86 = σ 86 from ((f73 86 (by decide)).trans (f54 86 (by decide))), show σ71 87 = σ 87 from ((f73 87 (by decide)).trans (f54 87 (by decide)))]; exact (hr4.up (by omega) (by omega))), (show jEl (σ71 51) (σ71 52) (τ 54) (τ 88) by rw [show σ71 51 = σ 51 from ((f73 51 (by decide)).trans (f54 51 (by decide))), show σ71 52 = σ 52 from ((f73 52 (by decide)).trans (f54 52 (by decide)))]; exact hr5), (show jByP (σ71 51) (σ71 52) (τ 54) by rw [show σ71 51 = σ 51 from ((f73 51 (by decide)).trans (f54 51 (by decide))), show σ71 52 = σ 52 from ((f73 52 (by decide)).trans (f54 52 (by decide)))]; exact hr6), (show jBk (σ71 48) (σ71 80) (σ71 49) (σ71 81) (σ71 55 47).toInt by rw [show σ71 48 = σ 48 from ((f73 48 (by decide)).trans (f54 48 (by decide))), show σ71 49 = σ 49 from ((f73 49 (by decide)).trans (f54 49 (by decide))), show σ71 80 = σ 80 from ((f73 80 (by decide)).trans (f54 80 (by decide))), show σ71 81 = σ 81 from ((f73 81 (by decide)).trans (f54 81 (by decide))), show (σ71 55 47).toInt = (σ 55 47).toInt from by omega]; exact hr7)⟩ hP hS (lv_sub hl [0, 1, 2, 3] rfl)
    · obtain ⟨q136, k132, k133, k134, k135⟩ := h82
      have q136 := q136.symm
      subst q136
      exact absurd k134 k66
    · obtain ⟨q142, k137, k138, k139, k140, k141⟩ := h83
      exact absurd k140 k66
  · obtain ⟨q147, k143, k144, k145, k146⟩ := h63
    have q147 := q147.symm
    subst q147
    refine lv_pop hx hb dL_law_502 rfl ?_
    refine lv_aload_n hx hb dL_law_503 rfl (lv_at hl 1 rfl) ?_
    refine lv_aload_n hx hb dL_law_504 rfl (lv_at hl 3 rfl) ?_
    refine lv_iload_n hx hb dL_law_505 rfl (lv_at hl 0 rfl) ?_
    refine lv_iconst (v := 1) hx hb dL_law_506 (by decide) ?_
    refine lv_iadd hx hb dL_law_507 ?_
    refine jtopr ex46.symm ?_
    refine va_sld hx hb hX hbl hbA hS (jin tx46 (by omega) (by omega)) dL_law_508 ?_
    refine lv_aload_n hx hb dL_law_509 rfl (lv_at hl 3 rfl) ?_
    refine lv_iload_n hx hb dL_law_510 rfl (lv_at hl 0 rfl) ?_
    refine lv_iconst (v := 2) hx hb dL_law_511 (by decide) ?_
    refine lv_iadd hx hb dL_law_512 ?_
    refine jtopr ex48.symm ?_
    refine va_sld hx hb hX hbl hbA hS (jin tx48 (by omega) (by omega)) dL_law_513 ?_
    refine lv_aload_n hx hb dL_law_514 rfl (lv_at hl 3 rfl) ?_
    refine lv_iload_n hx hb dL_law_515 rfl (lv_at hl 0 rfl) ?_
    refine lv_iconst (v := 3) hx hb dL_law_516 (by decide) ?_
    refine lv_iadd hx hb dL_law_517 ?_
    refine jtopr ex50.symm ?_
    refine va_sld hx hb hX hbl hbA hS (jin tx50 (by omega) (by omega)) dL_law_518 ?_
    have I148 : jI106 σ52 := jI106_fr (congrFun (f54 55 (by decide)) 32) (f54 70 (by decide)) (f54 71 (by decide)) (f54 72 (by decide)) hI106
    have z149 : (σ52 55 32).toInt = (σ 55 32).toInt := (congrArg Int32.toInt (show σ52 55 32 = (σ 55 32) from (congrFun (f54 55 (by decide)) 32)))
    refine jcallV (As := [.int (xs x46.toNatClampNeg), .int (xs x48.toNatClampNeg), .int (xs x50.toNatClampNeg)]) (rest := []) ⟨hx, hb, hml, hown, hts⟩ hK hP hA hS hZ (c_X12_rule l D cI cL ad zz hJ σ52 τ (xs x46.toNatClampNeg) ((xs x46.toNatClampNeg).toInt) rfl (xs x48.toNatClampNeg) ((xs x48.toNatClampNeg).toInt) rfl (xs x50.toNatClampNeg) ((xs x50.toNatClampNeg).toInt) rfl I148) cw_RL_56 (jc_55 cI cL ad σ52 τ) rfl ⟨Nat.le_of_ble_eq_true rfl, Nat.le_of_ble_eq_true rfl⟩ rfl rfl rfl hl.1 rfl (Nat.le_of_ble_eq_true rfl) dL_law_519 ⟨Nat.le_of_ble_eq_true rfl, Nat.le_of_ble_eq_true rfl⟩ (fun r151 σ150 τ150 H locs h150 hP hS => ?_)
    obtain ⟨rfl, f152, f153, I154, h150⟩ := h150
    obtain ⟨i156, w157, w158, w159⟩ : (0 ≤ (σ150 55 32).toInt ∧ (σ150 55 32).toInt ≤ 20) ∧ (∀ k : Nat, k < 20 → 0 ≤ (σ150 70 k).toInt ∧ (σ150 70 k).toInt ≤ 6) ∧ (∀ k : Nat, k < 20 → 0 ≤ (σ150 71 k).toInt ∧ (σ150 71 k).toInt ≤ 8) ∧ (∀ k : Nat, k < 160 → 0 ≤ (σ150 72 k).toInt ∧ (σ150 72 k).toInt ≤ 3) := id I154
    rcases h150 with h160 | h161 | h162
    · obtain ⟨q166, k163, k164, k165⟩ := h160
      have q166 := q166.symm
      subst q166
      exact absurd k145 k164
    · obtain ⟨q171, k167, k168, k169, k170⟩ := h161
      have q171 := q171.symm
      subst q171
      refine lv_pop hx hb dL_law_522 rfl ?_
      refine lv_goto (tgt := 1357) hx hb dL_law_523 (by decide) ?_
      obtain ⟨x172, ex172⟩ : ∃ y : Int32, y = x0 + 6 := ⟨_, rfl⟩
      have tx172 : x172.toInt = x0.toInt + 6 := (jadd ex172 rfl jz_6 (by omega) (by omega)).trans (by omega)
      refine lv_iinc (v := x172) (lv' := [(3, .int x172), (2, .ref (ad 55)), (1, .ref (ad 0)), (0, .ref b)]) hx hb dL_law_1357 hl (k := 0) rfl (by rw [ex172]; rfl) (by decide) rfl (fun ls hl => ?_)
      refine lv_goto (tgt := 18) hx hb dL_law_1360 (by decide) ?_
      have I173 : jI2 σ150 := jI2_fr ((congrFun (f152 2 (by decide)) 0).trans (congrFun (f54 2 (by decide)) 0)) ((congrFun (f152 2 (by decide)) 1).trans (congrFun (f54 2 (by decide)) 1)) ((congrFun (f152 2 (by decide)) 2).trans (congrFun (f54 2 (by decide)) 2)) ((congrFun (f152 2 (by decide)) 3).trans (congrFun (f54 2 (by decide)) 3)) ((f152 6 (by decide)).trans (f54 6 (by decide))) hI2
      have I174 : jI9 σ150 := jI9_fr ((congrFun (f152 9 (by decide)) 0).trans (congrFun (f54 9 (by decide)) 0)) ((f152 10 (by decide)).trans (f54 10 (by decide))) ((f152 11 (by decide)).trans (f54 11 (by decide))) hI9
      have I175 : jI12 σ150 := jI12_fr ((congrFun (f152 12 (by decide)) 0).trans (congrFun (f54 12 (by decide)) 0)) ((f152 13 (by decide)).trans (f54 13 (by decide))) hI12
      have I176 : jI16 σ150 := jI16_fr ((congrFun (f152 16 (by decide)) 0).trans (congrFun (f54 16 (by decide)) 0)) ((congrFun (f152 16 (by decide)) 1).trans (congrFun (f54 16 (by decide)) 1)) ((congrFun (f152 16 (by decide)) 2).trans (congrFun (f54 16 (by decide)) 2)) ((f152 17 (by decide)).trans (f54 17 (by decide))) hI16
      have I177 : jI18 σ150 := jI18_fr ((congrFun (f152 18 (by decide)) 0).trans (congrFun (f54 18 (by decide)) 0)) ((f152 19 (by decide)).trans (f54 19 (by decide))) hI18
      have I178 : jI22 σ150 := jI22_fr ((congrFun (f152 22 (by decide)) 0).trans (congrFun (f54 22 (by decide)) 0)) ((f152 23 (by decide)).trans (f54 23 (by decide))) hI22
      have I179 : jI31 σ150 := jI31_fr ((congrFun (f152 31 (by decide)) 8).trans (congrFun (f54 31 (by decide)) 8)) ((f152 33 (by decide)).trans (f54 33 (by decide))) ((f152 36 (by decide)).trans (f54 36 (by decide))) hI31
      have I180 : jI38 σ150 := jI38_fr (congrFun (f152 38 (by decide)) 0) (congrFun (f152 38 (by decide)) 1) (f152 39 (by decide)) I56
      have I181 : jI43 σ150 := jI43_fr ((congrFun (f152 43 (by decide)) 8).trans (congrFun (f54 43 (by decide)) 8)) hI43
      have I182 : jI47 σ150 := jI47_fr ((congrFun (f152 47 (by decide)) 0).trans (congrFun (f54 47 (by decide)) 0)) ((f152 48 (by decide)).trans (f54 48 (by decide))) ((f152 49 (by decide)).trans (f54 49 (by decide))) hI47
      have I183 : jI50 σ150 := jI50_fr ((f152 52 (by decide)).trans (f54 52 (by decide))) hI50
      have I184 : jI101 σ150 := jI101_fr ((f153 4 (by decide)).trans (congrFun (f54 55 (by decide)) 4)) ((f153 5 (by decide)).trans (congrFun (f54 55 (by decide)) 5)) ((f152 56 (by decide)).trans (f54 56 (by decide))) ((f152 57 (by decide)).trans (f54 57 (by decide))) ((f152 58 (by decide)).trans (f54 58 (by decide))) ((f152 59 (by decide)).trans (f54 59 (by decide))) hI101
      have I185 : jI102 σ150 := jI102_fr ((f153 6 (by decide)).trans (congrFun (f54 55 (by decide)) 6)) ((f152 60 (by decide)).trans (f54 60 (by decide))) ((f152 61 (by decide)).trans (f54 61 (by decide))) hI102
      have I186 : jI103 σ150 := jI103_fr ((f153 9 (by decide)).trans (congrFun (f54 55 (by decide)) 9)) hI103
      have I187 : jI104 σ150 := jI104_fr ((f153 10 (by decide)).trans (congrFun (f54 55 (by decide)) 10)) ((f153 12 (by decide)).trans (congrFun (f54 55 (by decide)) 12)) ((f153 13 (by decide)).trans (congrFun (f54 55 (by decide)) 13)) ((f152 62 (by decide)).trans (f54 62 (by decide))) ((f152 67 (by decide)).trans (f54 67 (by decide))) hI104
      have I188 : jI105 σ150 := jI105_fr ((f153 15 (by decide)).trans (congrFun (f54 55 (by decide)) 15)) ((f152 65 (by decide)).trans (f54 65 (by decide))) hI105
      have I189 : jI107 σ150 := jI107_fr ((f153 12 (by decide)).trans (congrFun (f54 55 (by decide)) 12)) ((f153 47 (by decide)).trans (congrFun (f54 55 (by decide)) 47)) ((f152 80 (by decide)).trans (f54 80 (by decide))) hI107
      have I190 : jI109 σ150 := jI109_fr ((f153 50 (by decide)).trans (congrFun (f54 55 (by decide)) 50)) hI109
      have I191 : jI110 σ150 := jI110_fr ((f152 86 (by decide)).trans (f54 86 (by decide))) ((f152 87 (by decide)).trans (f54 87 (by decide))) hI110
      have I192 : jI111 σ150 := jI111_fr ((f152 79 (by decide)).trans (f54 79 (by decide))) hI111
      have I193 : jI119 σ150 := jI119_fr ((f152 68 (by decide)).trans (f54 68 (by decide))) hI119
      have p194 : jKept σ150 := jKept.fr ((f152 75 (by decide)).trans (f54 75 (by decide))) ((f152 76 (by decide)).trans (f54 76 (by decide))) ((f152 77 (by decide)).trans (f54 77 (by decide))) hs_jKept
      have p195 : jBook σ150 := jBook.fr ((f153 47 (by decide)).trans (congrFun (f54 55 (by decide)) 47)) ((f153 10 (by decide)).trans (congrFun (f54 55 (by decide)) 10)) ((f152 81 (by decide)).trans (f54 81 (by decide))) hs_jBook
      have z196 : (σ150 2 0).toInt = (σ 2 0).toInt := (congrArg Int32.toInt (show σ150 2 0 = (σ 2 0) from ((congrFun (f152 2 (by decide)) 0).trans (congrFun (f54 2 (by decide)) 0))))
      have z197 : (σ150 55 6).toInt = (σ 55 6).toInt := (congrArg Int32.toInt (show σ150 55 6 = (σ 55 6) from ((f153 6 (by decide)).trans (congrFun (f54 55 (by decide)) 6))))
      have z198 : (σ150 2 2).toInt = (σ 2 2).toInt := (congrArg Int32.toInt (show σ150 2 2 = (σ 2 2) from ((congrFun (f152 2 (by decide)) 2).trans (congrFun (f54 2 (by decide)) 2))))
      have z199 : (σ150 55 5).toInt = (σ 55 5).toInt := (congrArg Int32.toInt (show σ150 55 5 = (σ 55 5) from ((f153 5 (by decide)).trans (congrFun (f54 55 (by decide)) 5))))
      have z200 : (σ150 2 3).toInt = (σ 2 3).toInt := (congrArg Int32.toInt (show σ150 2 3 = (σ 2 3) from ((congrFun (f152 2 (by decide)) 3).trans (congrFun (f54 2 (by decide)) 3))))
      have z201 : (σ150 55 4).toInt = (σ 55 4).toInt := (congrArg Int32.toInt (show σ150 55 4 = (σ 55 4) from ((f153 4 (by decide)).trans (congrFun (f54 55 (by decide)) 4))))
      have z202 : (σ150 9 0).toInt = (σ 9 0).toInt := (congrArg Int32.toInt (show σ150 9 0 = (σ 9 0) from ((congrFun (f152 9 (by decide)) 0).trans (congrFun (f54 9 (by decide)) 0))))
      have z203 : (σ150 55 15).toInt = (σ 55 15).toInt := (congrArg Int32.toInt (show σ150 55 15 = (σ 55 15) from ((f153 15 (by decide)).trans (congrFun (f54 55 (by decide)) 15))))
      have z204 : (σ150 16 0).toInt = (σ 16 0).toInt := (congrArg Int32.toInt (show σ150 16 0 = (σ 16 0) from ((congrFun (f152 16 (by decide)) 0).trans (congrFun (f54 16 (by decide)) 0))))
      have z205 : (σ150 55 10).toInt = (σ 55 10).toInt := (congrArg Int32.toInt (show σ150 55 10 = (σ 55 10) from ((f153 10 (by decide)).trans (congrFun (f54 55 (by decide)) 10))))
      have z206 : (σ150 16 1).toInt = (σ 16 1).toInt := (congrArg Int32.toInt (show σ150 16 1 = (σ 16 1) from ((congrFun (f152 16 (by decide)) 1).trans (congrFun (f54 16 (by decide)) 1))))
      have z207 : (σ150 55 12).toInt = (σ 55 12).toInt := (congrArg Int32.toInt (show σ150 55 12 = (σ 55 12) from ((f153 12 (by decide)).trans (congrFun (f54 55 (by decide)) 12))))
      have z208 : (σ150 16 2).toInt = (σ 16 2).toInt := (congrArg Int32.toInt (show σ150 16 2 = (σ 16 2) from ((congrFun (f152 16 (by decide)) 2).trans (congrFun (f54 16 (by decide)) 2))))
      have z209 : (σ150 55 13).toInt = (σ 55 13).toInt := (congrArg Int32.toInt (show σ150 55 13 = (σ 55 13) from ((f153 13 (by decide)).trans (congrFun (f54 55 (by decide)) 13))))
      have z210 : (σ150 38 0).toInt = (σ52 38 0).toInt := (congrArg Int32.toInt (show σ150 38 0 = (σ52 38 0) from (congrFun (f152 38 (by decide)) 0)))
      have z211 : (σ150 47 0).toInt = (σ 47 0).toInt := (congrArg Int32.toInt (show σ150 47 0 = (σ 47 0) from ((congrFun (f152 47 (by decide)) 0).trans (congrFun (f54 47 (by decide)) 0))))
      have z212 : (σ150 55 47).toInt = (σ 55 47).toInt := (congrArg Int32.toInt (show σ150 55 47 = (σ 55 47) from ((f153 47 (by decide)).trans (congrFun (f54 55 (by decide)) 47))))
      have z213 : (σ150 55 30).toInt = (σ 55 30).toInt := (congrArg Int32.toInt (show σ150 55 30 = (σ 55 30) from ((f153 30 (by decide)).trans (congrFun (f54 55 (by decide)) 30))))
      have z214 : (σ150 55 31).toInt = (σ 55 31).toInt := (congrArg Int32.toInt (show σ150 55 31 = (σ 55 31) from ((f153 31 (by decide)).trans (congrFun (f54 55 (by decide)) 31))))
      exact ih x172 σ150 τ _ _ ls (by have h9 := tx172; omega) ⟨I173, I174, I175, I176, I177, I178, I179, I180, I181, I182, I183, I184, I185, I186, I187, I188, I154, I189, I190, I191, I192, I193, p194, p195, (by omega), (by omega), (by omega), (by omega), (by omega), (by omega), (by omega), (by omega), (by omega), (by omega), (by omega), (show jNumP (σ150 3) (σ150 56) (σ150 6) (σ150 57) (σ150 7) (σ150 58) (σ150 8) (σ150 59) (σ150 55 6).toInt (σ150 55 4).toInt by rw [show σ150 3 = σ 3 from ((f152 3 (by decide)).trans (f54 3 (by decide))), show σ150 56 = σ 56 from ((f152 56 (by decide)).trans (f54 56 (by decide))), show σ150 6 = σ 6 from ((f152 6 (by decide)).trans (f54 6 (by decide))), show σ150 57 = σ 57 from ((f152 57 (by decide)).trans (f54 57 (by decide))), show σ150 7 = σ 7 from ((f152 7 (by decide)).trans (f54 7 (by decide))), show σ150 58 = σ 58 from ((f152 58 (by decide)).trans (f54 58 (by decide))), show σ150 8 = σ 8 from ((f152 8 (by decide)).trans (f54 8 (by decide))), show σ150 59 = σ 59 from ((f152 59 (by decide)).trans (f54 59 (by decide))), show (σ150 55 6).toInt = (σ 55 6).toInt from by omega, show (σ150 55 4).toInt = (σ 55 4).toInt from by omega]; exact hr0), (show jOvP (σ150 56) (σ150 57) (σ150 58) (σ150 59) (σ150 55 4).toInt by rw [show σ150 56 = σ 56 from ((f152 56 (by decide)).trans (f54 56 (by decide))), show σ150 57 = σ 57 from ((f152 57 (by decide)).trans (f54 57 (by decide))), show σ150 58 = σ 58 from ((f152 58 (by decide)).trans (f54 58 (by decide))), show σ150 59 = σ 59 from ((f152 59 (by decide)).trans (f54 59 (by decide))), show (σ150 55 4).toInt = (σ 55 4).toInt from by omega]; exact hr1), (show jTp (σ150 10) (σ150 63) (σ150 55 15).toInt by rw [show σ150 10 = σ 10 from ((f152 10 (by decide)).trans (f54 10 (by decide))), show σ150 63 = σ 63 from ((f152 63 (by decide)).trans (f54 63 (by decide)))]; exact hr2.le (by omega)), (show jSo (σ150 17) (σ150 62) (σ150 16 0).toInt by rw [show σ150 17 = σ 17 from ((f152 17 (by decide)).trans (f54 17 (by decide))), show σ150 62 = σ 62 from ((f152 62 (by decide)).trans (f54 62 (by decide))), show (σ150 16 0).toInt = (σ 16 0).toInt from by omega]; exact hr3), (show jShP (σ150 51) (σ150 52) (σ150 53) (σ150 86) (σ150 87) (σ150 55 32).toInt by rw [show σ150 51 = σ 51 from ((f152 51 (by decide)).trans (f54 51 (by decide))), show σ150 52 = σ 52 from ((f152 52 (by decide)).trans (f54 52 (by decide))), show σ150 53 = σ 53 from ((f152 53 (by decide)).trans (f54 53 (by decide))), show σ150 86 = σ 86 from ((f152 86 (by decide)).trans (f54 86 (by decide))), show σ150 87 = σ 87 from ((f152 87 (by decide)).trans (f54 87 (by decide)))]; exact (hr4.up (by omega) (by omega))), (show jEl (σ150 51) (σ150 52) (τ 54) (τ 88) by rw [show σ150 51 = σ 51 from ((f152 51 (by decide)).trans (f54 51 (by decide))), show σ150 52 = σ 52 from ((f152 52 (by decide)).trans (f54 52 (by decide)))]; exact hr5), (show jByP (σ150 51) (σ150 52) (τ 54) by rw [show σ150 51 = σ 51 from ((f152 51 (by decide)).trans (f54 51 (by decide))), show σ150 52 = σ 52 from ((f152 52 (by decide)).trans (f54 52 (by decide)))]; exact hr6), (show jBk (σ150 48) (σ150 80) (σ150 49) (σ150 81) (σ150 55 47).toInt by rw [show σ150 48 = σ 48 from ((f152 48 (by decide)).trans (f54 48 (by decide))), show σ150 49 = σ 49 from ((f152 49 (by decide)).trans (f54 49 (by decide))), show σ150 80 = σ 80 from ((f152 80 (by decide)).trans (f54 80 (by decide))), show σ150 81 = σ 81 from ((f152 81 (by decide)).trans (f54 81 (by decide))), show (σ150 55 47).toInt = (σ 55 47).toInt from by omega]; exact hr7)⟩ hP hS (lv_sub hl [0, 1, 2, 3] rfl)
    · obtain ⟨q221, k216, k217, k218, k219, k220⟩ := h162
      exact absurd (by omega : False) id
  · obtain ⟨q227, k222, k223, k224, k225, k226⟩ := h64
    refine lv_pop hx hb dL_law_502 rfl ?_
    refine lv_aload_n hx hb dL_law_503 rfl (lv_at hl 1 rfl) ?_
    refine lv_aload_n hx hb dL_law_504 rfl (lv_at hl 3 rfl) ?_
    refine lv_iload_n hx hb dL_law_505 rfl (lv_at hl 0 rfl) ?_
    refine lv_iconst (v := 1) hx hb dL_law_506 (by decide) ?_
    refine lv_iadd hx hb dL_law_507 ?_
    refine jtopr ex46.symm ?_
    refine va_sld hx hb hX hbl hbA hS (jin tx46 (by omega) (by omega)) dL_law_508 ?_
    refine lv_aload_n hx hb dL_law_509 rfl (lv_at hl 3 rfl) ?_
    refine lv_iload_n hx hb dL_law_510 rfl (lv_at hl 0 rfl) ?_
    refine lv_iconst (v := 2) hx hb dL_law_511 (by decide) ?_
    refine lv_iadd hx hb dL_law_512 ?_
    refine jtopr ex48.symm ?_
    refine va_sld hx hb hX hbl hbA hS (jin tx48 (by omega) (by omega)) dL_law_513 ?_
    refine lv_aload_n hx hb dL_law_514 rfl (lv_at hl 3 rfl) ?_
    refine lv_iload_n hx hb dL_law_515 rfl (lv_at hl 0 rfl) ?_
    refine lv_iconst (v := 3) hx hb dL_law_516 (by decide) ?_
    refine lv_iadd hx hb dL_law_517 ?_
    refine jtopr ex50.symm ?_
    refine va_sld hx hb hX hbl hbA hS (jin tx50 (by omega) (by omega)) dL_law_518 ?_
    have I228 : jI106 σ52 := jI106_fr (congrFun (f54 55 (by decide)) 32) (f54 70 (by decide)) (f54 71 (by decide)) (f54 72 (by decide)) hI106
    have z229 : (σ52 55 32).toInt = (σ 55 32).toInt := (congrArg Int32.toInt (show σ52 55 32 = (σ 55 32) from (congrFun (f54 55 (by decide)) 32)))
    refine jcallV (As := [.int (xs x46.toNatClampNeg), .int (xs x48.toNatClampNeg), .int (xs x50.toNatClampNeg)]) (rest := []) ⟨hx, hb, hml, hown, hts⟩ hK hP hA hS hZ (c_X12_rule l D cI cL ad zz hJ σ52 τ (xs x46.toNatClampNeg) ((xs x46.toNatClampNeg).toInt) rfl (xs x48.toNatClampNeg) ((xs x48.toNatClampNeg).toInt) rfl (xs x50.toNatClampNeg) ((xs x50.toNatClampNeg).toInt) rfl I228) cw_RL_56 (jc_55 cI cL ad σ52 τ) rfl ⟨Nat.le_of_ble_eq_true rfl, Nat.le_of_ble_eq_true rfl⟩ rfl rfl rfl hl.1 rfl (Nat.le_of_ble_eq_true rfl) dL_law_519 ⟨Nat.le_of_ble_eq_true rfl, Nat.le_of_ble_eq_true rfl⟩ (fun r231 σ230 τ230 H locs h230 hP hS => ?_)
    obtain ⟨rfl, f232, f233, I234, h230⟩ := h230
    obtain ⟨i236, w237, w238, w239⟩ : (0 ≤ (σ230 55 32).toInt ∧ (σ230 55 32).toInt ≤ 20) ∧ (∀ k : Nat, k < 20 → 0 ≤ (σ230 70 k).toInt ∧ (σ230 70 k).toInt ≤ 6) ∧ (∀ k : Nat, k < 20 → 0 ≤ (σ230 71 k).toInt ∧ (σ230 71 k).toInt ≤ 8) ∧ (∀ k : Nat, k < 160 → 0 ≤ (σ230 72 k).toInt ∧ (σ230 72 k).toInt ≤ 3) := id I234
    rcases h230 with h240 | h241 | h242
    · obtain ⟨q246, k243, k244, k245⟩ := h240
      have q246 := q246.symm
      subst q246
      exact absurd k225 k244
    · obtain ⟨q251, k247, k248, k249, k250⟩ := h241
      exact absurd (by omega : False) id
    · obtain ⟨q257, k252, k253, k254, k255, k256⟩ := h242
      refine lv_pop hx hb dL_law_522 rfl ?_
      refine lv_goto (tgt := 1357) hx hb dL_law_523 (by decide) ?_
      obtain ⟨x258, ex258⟩ : ∃ y : Int32, y = x0 + 6 := ⟨_, rfl⟩
      have tx258 : x258.toInt = x0.toInt + 6 := (jadd ex258 rfl jz_6 (by omega) (by omega)).trans (by omega)
      refine lv_iinc (v := x258) (lv' := [(3, .int x258), (2, .ref (ad 55)), (1, .ref (ad 0)), (0, .ref b)]) hx hb dL_law_1357 hl (k := 0) rfl (by rw [ex258]; rfl) (by decide) rfl (fun ls hl => ?_)
      refine lv_goto (tgt := 18) hx hb dL_law_1360 (by decide) ?_
      have I259 : jI2 σ230 := jI2_fr ((congrFun (f232 2 (by decide)) 0).trans (congrFun (f54 2 (by decide)) 0)) ((congrFun (f232 2 (by decide)) 1).trans (congrFun (f54 2 (by decide)) 1)) ((congrFun (f232 2 (by decide)) 2).trans (congrFun (f54 2 (by decide)) 2)) ((congrFun (f232 2 (by decide)) 3).trans (congrFun (f54 2 (by decide)) 3)) ((f232 6 (by decide)).trans (f54 6 (by decide))) hI2
      have I260 : jI9 σ230 := jI9_fr ((congrFun (f232 9 (by decide)) 0).trans (congrFun (f54 9 (by decide)) 0)) ((f232 10 (by decide)).trans (f54 10 (by decide))) ((f232 11 (by decide)).trans (f54 11 (by decide))) hI9
      have I261 : jI12 σ230 := jI12_fr ((congrFun (f232 12 (by decide)) 0).trans (congrFun (f54 12 (by decide)) 0)) ((f232 13 (by decide)).trans (f54 13 (by decide))) hI12
      have I262 : jI16 σ230 := jI16_fr ((congrFun (f232 16 (by decide)) 0).trans (congrFun (f54 16 (by decide)) 0)) ((congrFun (f232 16 (by decide)) 1).trans (congrFun (f54 16 (by decide)) 1)) ((congrFun (f232 16 (by decide)) 2).trans (congrFun (f54 16 (by decide)) 2)) ((f232 17 (by decide)).trans (f54 17 (by decide))) hI16
      have I263 : jI18 σ230 := jI18_fr ((congrFun (f232 18 (by decide)) 0).trans (congrFun (f54 18 (by decide)) 0)) ((f232 19 (by decide)).trans (f54 19 (by decide))) hI18
      have I264 : jI22 σ230 := jI22_fr ((congrFun (f232 22 (by decide)) 0).trans (congrFun (f54 22 (by decide)) 0)) ((f232 23 (by decide)).trans (f54 23 (by decide))) hI22
      have I265 : jI31 σ230 := jI31_fr ((congrFun (f232 31 (by decide)) 8).trans (congrFun (f54 31 (by decide)) 8)) ((f232 33 (by decide)).trans (f54 33 (by decide))) ((f232 36 (by decide)).trans (f54 36 (by decide))) hI31
      have I266 : jI38 σ230 := jI38_fr (congrFun (f232 38 (by decide)) 0) (congrFun (f232 38 (by decide)) 1) (f232 39 (by decide)) I56
      have I267 : jI43 σ230 := jI43_fr ((congrFun (f232 43 (by decide)) 8).trans (congrFun (f54 43 (by decide)) 8)) hI43
      have I268 : jI47 σ230 := jI47_fr ((congrFun (f232 47 (by decide)) 0).trans (congrFun (f54 47 (by decide)) 0)) ((f232 48 (by decide)).trans (f54 48 (by decide))) ((f232 49 (by decide)).trans (f54 49 (by decide))) hI47
      have I269 : jI50 σ230 := jI50_fr ((f232 52 (by decide)).trans (f54 52 (by decide))) hI50
      have I270 : jI101 σ230 := jI101_fr ((f233 4 (by decide)).trans (congrFun (f54 55 (by decide)) 4)) ((f233 5 (by decide)).trans (congrFun (f54 55 (by decide)) 5)) ((f232 56 (by decide)).trans (f54 56 (by decide))) ((f232 57 (by decide)).trans (f54 57 (by decide))) ((f232 58 (by decide)).trans (f54 58 (by decide))) ((f232 59 (by decide)).trans (f54 59 (by decide))) hI101
      have I271 : jI102 σ230 := jI102_fr ((f233 6 (by decide)).trans (congrFun (f54 55 (by decide)) 6)) ((f232 60 (by decide)).trans (f54 60 (by decide))) ((f232 61 (by decide)).trans (f54 61 (by decide))) hI102
      have I272 : jI103 σ230 := jI103_fr ((f233 9 (by decide)).trans (congrFun (f54 55 (by decide)) 9)) hI103
      have I273 : jI104 σ230 := jI104_fr ((f233 10 (by decide)).trans (congrFun (f54 55 (by decide)) 10)) ((f233 12 (by decide)).trans (congrFun (f54 55 (by decide)) 12)) ((f233 13 (by decide)).trans (congrFun (f54 55 (by decide)) 13)) ((f232 62 (by decide)).trans (f54 62 (by decide))) ((f232 67 (by decide)).trans (f54 67 (by decide))) hI104
      have I274 : jI105 σ230 := jI105_fr ((f233 15 (by decide)).trans (congrFun (f54 55 (by decide)) 15)) ((f232 65 (by decide)).trans (f54 65 (by decide))) hI105
      have I275 : jI107 σ230 := jI107_fr ((f233 12 (by decide)).trans (congrFun (f54 55 (by decide)) 12)) ((f233 47 (by decide)).trans (congrFun (f54 55 (by decide)) 47)) ((f232 80 (by decide)).trans (f54 80 (by decide))) hI107
      have I276 : jI109 σ230 := jI109_fr ((f233 50 (by decide)).trans (congrFun (f54 55 (by decide)) 50)) hI109
      have I277 : jI110 σ230 := jI110_fr ((f232 86 (by decide)).trans (f54 86 (by decide))) ((f232 87 (by decide)).trans (f54 87 (by decide))) hI110
      have I278 : jI111 σ230 := jI111_fr ((f232 79 (by decide)).trans (f54 79 (by decide))) hI111
      have I279 : jI119 σ230 := jI119_fr ((f232 68 (by decide)).trans (f54 68 (by decide))) hI119
      have p280 : jKept σ230 := jKept.fr ((f232 75 (by decide)).trans (f54 75 (by decide))) ((f232 76 (by decide)).trans (f54 76 (by decide))) ((f232 77 (by decide)).trans (f54 77 (by decide))) hs_jKept
      have p281 : jBook σ230 := jBook.fr ((f233 47 (by decide)).trans (congrFun (f54 55 (by decide)) 47)) ((f233 10 (by decide)).trans (congrFun (f54 55 (by decide)) 10)) ((f232 81 (by decide)).trans (f54 81 (by decide))) hs_jBook
      have z282 : (σ230 2 0).toInt = (σ 2 0).toInt := (congrArg Int32.toInt (show σ230 2 0 = (σ 2 0) from ((congrFun (f232 2 (by decide)) 0).trans (congrFun (f54 2 (by decide)) 0))))
      have z283 : (σ230 55 6).toInt = (σ 55 6).toInt := (congrArg Int32.toInt (show σ230 55 6 = (σ 55 6) from ((f233 6 (by decide)).trans (congrFun (f54 55 (by decide)) 6))))
      have z284 : (σ230 2 2).toInt = (σ 2 2).toInt := (congrArg Int32.toInt (show σ230 2 2 = (σ 2 2) from ((congrFun (f232 2 (by decide)) 2).trans (congrFun (f54 2 (by decide)) 2))))
      have z285 : (σ230 55 5).toInt = (σ 55 5).toInt := (congrArg Int32.toInt (show σ230 55 5 = (σ 55 5) from ((f233 5 (by decide)).trans (congrFun (f54 55 (by decide)) 5))))
      have z286 : (σ230 2 3).toInt = (σ 2 3).toInt := (congrArg Int32.toInt (show σ230 2 3 = (σ 2 3) from ((congrFun (f232 2 (by decide)) 3).trans (congrFun (f54 2 (by decide)) 3))))
      have z287 : (σ230 55 4).toInt = (σ 55 4).toInt := (congrArg Int32.toInt (show σ230 55 4 = (σ 55 4) from ((f233 4 (by decide)).trans (congrFun (f54 55 (by decide)) 4))))
      have z288 : (σ230 9 0).toInt = (σ 9 0).toInt := (congrArg Int32.toInt (show σ230 9 0 = (σ 9 0) from ((congrFun (f232 9 (by decide)) 0).trans (congrFun (f54 9 (by decide)) 0))))
      have z289 : (σ230 55 15).toInt = (σ 55 15).toInt := (congrArg Int32.toInt (show σ230 55 15 = (σ 55 15) from ((f233 15 (by decide)).trans (congrFun (f54 55 (by decide)) 15))))
      have z290 : (σ230 16 0).toInt = (σ 16 0).toInt := (congrArg Int32.toInt (show σ230 16 0 = (σ 16 0) from ((congrFun (f232 16 (by decide)) 0).trans (congrFun (f54 16 (by decide)) 0))))
      have z291 : (σ230 55 10).toInt = (σ 55 10).toInt := (congrArg Int32.toInt (show σ230 55 10 = (σ 55 10) from ((f233 10 (by decide)).trans (congrFun (f54 55 (by decide)) 10))))
      have z292 : (σ230 16 1).toInt = (σ 16 1).toInt := (congrArg Int32.toInt (show σ230 16 1 = (σ 16 1) from ((congrFun (f232 16 (by decide)) 1).trans (congrFun (f54 16 (by decide)) 1))))
      have z293 : (σ230 55 12).toInt = (σ 55 12).toInt := (congrArg Int32.toInt (show σ230 55 12 = (σ 55 12) from ((f233 12 (by decide)).trans (congrFun (f54 55 (by decide)) 12))))
      have z294 : (σ230 16 2).toInt = (σ 16 2).toInt := (congrArg Int32.toInt (show σ230 16 2 = (σ 16 2) from ((congrFun (f232 16 (by decide)) 2).trans (congrFun (f54 16 (by decide)) 2))))
      have z295 : (σ230 55 13).toInt = (σ 55 13).toInt := (congrArg Int32.toInt (show σ230 55 13 = (σ 55 13) from ((f233 13 (by decide)).trans (congrFun (f54 55 (by decide)) 13))))
      have z296 : (σ230 38 0).toInt = (σ52 38 0).toInt := (congrArg Int32.toInt (show σ230 38 0 = (σ52 38 0) from (congrFun (f232 38 (by decide)) 0)))
      have z297 : (σ230 47 0).toInt = (σ 47 0).toInt := (congrArg Int32.toInt (show σ230 47 0 = (σ 47 0) from ((congrFun (f232 47 (by decide)) 0).trans (congrFun (f54 47 (by decide)) 0))))
      have z298 : (σ230 55 47).toInt = (σ 55 47).toInt := (congrArg Int32.toInt (show σ230 55 47 = (σ 55 47) from ((f233 47 (by decide)).trans (congrFun (f54 55 (by decide)) 47))))
      have z299 : (σ230 55 30).toInt = (σ 55 30).toInt := (congrArg Int32.toInt (show σ230 55 30 = (σ 55 30) from ((f233 30 (by decide)).trans (congrFun (f54 55 (by decide)) 30))))
      have z300 : (σ230 55 31).toInt = (σ 55 31).toInt := (congrArg Int32.toInt (show σ230 55 31 = (σ 55 31) from ((f233 31 (by decide)).trans (congrFun (f54 55 (by decide)) 31))))
      exact ih x258 σ230 τ _ _ ls (by have h9 := tx258; omega) ⟨I259, I260, I261, I262, I263, I264, I265, I266, I267, I268, I269, I270, I271, I272, I273, I274, I234, I275, I276, I277, I278, I279, p280, p281, (by omega), (by omega), (by omega), (by omega), (by omega), (by omega), (by omega), (by omega), (by omega), (by omega), (by omega), (show jNumP (σ230 3) (σ230 56) (σ230 6) (σ230 57) (σ230 7) (σ230 58) (σ230 8) (σ230 59) (σ230 55 6).toInt (σ230 55 4).toInt by rw [show σ230 3 = σ 3 from ((f232 3 (by decide)).trans (f54 3 (by decide))), show σ230 56 = σ 56 from ((f232 56 (by decide)).trans (f54 56 (by decide))), show σ230 6 = σ 6 from ((f232 6 (by decide)).trans (f54 6 (by decide))), show σ230 57 = σ 57 from ((f232 57 (by decide)).trans (f54 57 (by decide))), show σ230 7 = σ 7 from ((f232 7 (by decide)).trans (f54 7 (by decide))), show σ230 58 = σ 58 from ((f232 58 (by decide)).trans (f54 58 (by decide))), show σ230 8 = σ 8 from ((f232 8 (by decide)).trans (f54 8 (by decide))), show σ230 59 = σ 59 from ((f232 59 (by decide)).trans (f54 59 (by decide))), show (σ230 55 6).toInt = (σ 55 6).toInt from by omega, show (σ230 55 4).toInt = (σ 55 4).toInt from by omega]; exact hr0), (show jOvP (σ230 56) (σ230 57) (σ230 58) (σ230 59) (σ230 55 4).toInt by rw [show σ230 56 = σ 56 from ((f232 56 (by decide)).trans (f54 56 (by decide))), show σ230 57 = σ 57 from ((f232 57 (by decide)).trans (f54 57 (by decide))), show σ230 58 = σ 58 from ((f232 58 (by decide)).trans (f54 58 (by decide))), show σ230 59 = σ 59 from ((f232 59 (by decide)).trans (f54 59 (by decide))), show (σ230 55 4).toInt = (σ 55 4).toInt from by omega]; exact hr1), (show jTp (σ230 10) (σ230 63) (σ230 55 15).toInt by rw [show σ230 10 = σ 10 from ((f232 10 (by decide)).trans (f54 10 (by decide))), show σ230 63 = σ 63 from ((f232 63 (by decide)).trans (f54 63 (by decide)))]; exact hr2.le (by omega)), (show jSo (σ230 17) (σ230 62) (σ230 16 0).toInt by rw [show σ230 17 = σ 17 from ((f232 17 (by decide)).trans (f54 17 (by decide))), show σ230 62 = σ 62 from ((f232 62 (by decide)).trans (f54 62 (by decide))), show (σ230 16 0).toInt = (σ 16 0).toInt from by omega]; exact hr3), (show jShP (σ230 51) (σ230 52) (σ230 53) (σ230 86) (σ230 87) (σ230 55 32).toInt by rw [show σ230 51 = σ 51 from ((f232 51 (by decide)).trans (f54 51 (by decide))), show σ230 52 = σ 52 from ((f232 52 (by decide)).trans (f54 52 (by decide))), show σ230 53 = σ 53 from ((f232 53 (by decide)).trans (f54 53 (by decide))), show σ230 86 = σ 86 from ((f232 86 (by decide)).trans (f54 86 (by decide))), show σ230 87 = σ 87 from ((f232 87 (by decide)).trans (f54 87 (by decide)))]; exact (hr4.up (by omega) (by omega))), (show jEl (σ230 51) (σ230 52) (τ 54) (τ 88) by rw [show σ230 51 = σ 51 from ((f232 51 (by decide)).trans (f54 51 (by decide))), show σ230 52 = σ 52 from ((f232 52 (by decide)).trans (f54 52 (by decide)))]; exact hr5), (show jByP (σ230 51) (σ230 52) (τ 54) by rw [show σ230 51 = σ 51 from ((f232 51 (by decide)).trans (f54 51 (by decide))), show σ230 52 = σ 52 from ((f232 52 (by decide)).trans (f54 52 (by decide)))]; exact hr6), (show jBk (σ230 48) (σ230 80) (σ230 49) (σ230 81) (σ230 55 47).toInt by rw [show σ230 48 = σ 48 from ((f232 48 (by decide)).trans (f54 48 (by decide))), show σ230 49 = σ 49 from ((f232 49 (by decide)).trans (f54 49 (by decide))), show σ230 80 = σ 80 from ((f232 80 (by decide)).trans (f54 80 (by decide))), show σ230 81 = σ 81 from ((f232 81 (by decide)).trans (f54 81 (by decide))), show (σ230 55 47).toInt = (σ 55 47).toInt from by omega]; exact hr7)⟩ hP hS (lv_sub hl [0, 1, 2, 3] rfl)
set_option maxHeartbeats 4000000 in
set_option maxRecDepth 100000 in
theorem law_case_10 {p : Program} {e : Env} {s : State} {m : MethodId} {below : List Frame} {meth : Method} {c : Code} (l : Launch) {b L : Nat} {xs : Nat → Int32} {D : va_G} {cI cL : ClassId} {ad zz : Nat → Nat} (C0 : lw_At p s m meth c b L xs) (hJ : jD ad) (hA : ∀ q, jA ad q → s.heap.size ≤ q) (hK : jK D cI cL s) (hZ : jZ zz (fun q : Nat => s.heap.size ≤ q) s s.heap) {x0 : Int32} (hx0 : 0 ≤ x0.toInt) (hxL : x0.toInt + 6 ≤ (L : Int)) (hL : L ≤ 384) {σ : Nat → Nat → Int32} {τ : Nat → Nat → Int64} {H : Heap} {locs : List Loc} (hS : va_S (fun q : Nat => s.heap.size ≤ q) s.heap H locs) {ls : Array Slot} (hAll : jAll σ τ) (hP : jH D cI cL ad σ τ H) (hl : lv_has ls 4 [(3, .int x0), (2, .ref (ad 55)), (1, .ref (ad 0)), (0, .ref b)]) (ih : ∀ (x1 : Int32) (σ : Nat → Nat → Int32) (τ : Nat → Nat → Int64) (H : Heap) (locs : List Loc) (ls : Array Slot), x1.toInt = x0.toInt + 6 → jAll σ τ → jH D cI cL ad σ τ H → va_S (fun q : Nat => s.heap.size ≤ q) s.heap H locs → lv_has ls 4 [(3, .int x1), (2, .ref (ad 55)), (1, .ref (ad 0)), (0, .ref b)] → W p l e room_1 s m #[Value.ref b] below meth c H locs 90 348600 (lw_Z below #[Value.ref b] s) (F0 m 18 ls [])) : W p l e room_1 s m #[Value.ref b] below meth c H locs 90 348600 (lw_Z below #[Value.ref b] s) (F0 m 526 ls []) := by
  obtain ⟨hx, hb, hr, hml, hown, hts0, hX, hbl, hlocks, hgv⟩ := C0
  have hts : ∀ w ∈ wsL_law, w.before #[Value.ref b] s = true := fun w h => hts0 w (wsL_law_in w h)
  have hbA : ¬ (fun q : Nat => s.heap.size ≤ q) b := Nat.not_le.mpr hbl
  have hown : s.vm.findClass RL = some m.cls := hown
  obtain ⟨hI2, hI9, hI12, hI16, hI18, hI22, hI31, hI38, hI43, hI47, hI50, hI101, hI102, hI103, hI104, hI105, hI106, hI107, hI109, hI110, hI111, hI119, hs_jKept, hs_jBook, ht0, ht1, ht2, ht3, ht4, ht5, ht6, ht7, ht8, ht9, ht10, hr0, hr1, hr2, hr3, hr4, hr5, hr6, hr7⟩ := hAll
  have hL9 : (L : Int) ≤ 384 := by omega
  obtain ⟨i1, i2, i3, i4, i5, w6⟩ : (0 ≤ (σ 2 0).toInt ∧ (σ 2 0).toInt ≤ 4) ∧ (0 ≤ (σ 2 1).toInt ∧ (σ 2 1).toInt ≤ 3) ∧ (0 ≤ (σ 2 2).toInt) ∧ (0 ≤ (σ 2 3).toInt) ∧ ((σ 2 2).toInt + (σ 2 3).toInt ≤ 40) ∧ (∀ k : Nat, k < 40 → 0 ≤ (σ 6 k).toInt ∧ (σ 6 k).toInt ≤ 67) := id hI2
  obtain ⟨i7, w8, w9⟩ : (0 ≤ (σ 9 0).toInt ∧ (σ 9 0).toInt ≤ 80) ∧ (∀ k : Nat, k < 80 → 0 ≤ (σ 10 k).toInt ∧ (σ 10 k).toInt ≤ 255) ∧ (∀ k : Nat, k < 8 → 0 ≤ (σ 11 k).toInt ∧ (σ 11 k).toInt ≤ 3) := id hI9
  obtain ⟨i10, i11, i12, w13⟩ : (1 ≤ (σ 16 0).toInt ∧ (σ 16 0).toInt ≤ 8) ∧ (1 ≤ (σ 16 1).toInt ∧ (σ 16 1).toInt ≤ 12) ∧ (0 ≤ (σ 16 2).toInt ∧ (σ 16 2).toInt ≤ 999) ∧ (∀ k : Nat, k < 8 → 0 ≤ (σ 17 k).toInt ∧ (σ 17 k).toInt ≤ 3) := id hI16
  obtain ⟨i14, i15, w16⟩ : (0 ≤ (σ 38 0).toInt ∧ (σ 38 0).toInt ≤ 20) ∧ (0 ≤ (σ 38 1).toInt ∧ (σ 38 1).toInt ≤ 1000) ∧ (∀ k : Nat, k < 20 → 0 ≤ (σ 39 k).toInt ∧ (σ 39 k).toInt ≤ 6) := id hI38
  obtain ⟨i17, w18, w19⟩ : (0 ≤ (σ 47 0).toInt ∧ (σ 47 0).toInt ≤ 12) ∧ (∀ k : Nat, k < 12 → 0 ≤ (σ 48 k).toInt ∧ (σ 48 k).toInt ≤ 3) ∧ (∀ k : Nat, k < 12 → 0 ≤ (σ 49 k).toInt ∧ (σ 49 k).toInt ≤ 1) := id hI47
  have w20 : ∀ k : Nat, k < 6 → 0 ≤ (σ 52 k).toInt ∧ (σ 52 k).toInt ≤ 60 := hI50
  obtain ⟨i21, i22, i23, w24, w25, w26, w27⟩ : (0 ≤ (σ 55 5).toInt) ∧ ((σ 55 5).toInt ≤ (σ 55 4).toInt) ∧ ((σ 55 4).toInt ≤ 40) ∧ (∀ k : Nat, k < 68 → (-200) ≤ (σ 56 k).toInt ∧ (σ 56 k).toInt ≤ 500) ∧ (∀ k : Nat, k < 40 → 0 ≤ (σ 57 k).toInt ∧ (σ 57 k).toInt ≤ 67) ∧ (∀ k : Nat, k < 40 → (-200) ≤ (σ 58 k).toInt ∧ (σ 58 k).toInt ≤ 500) ∧ (∀ k : Nat, k < 40 → (-200) ≤ (σ 59 k).toInt ∧ (σ 59 k).toInt ≤ 500) := id hI101
  obtain ⟨i28, w29, w30⟩ : (0 ≤ (σ 55 6).toInt ∧ (σ 55 6).toInt ≤ 4) ∧ (∀ k : Nat, k < 4 → 0 ≤ (σ 60 k).toInt ∧ (σ 60 k).toInt ≤ 50) ∧ (∀ k : Nat, k < 4 → 0 ≤ (σ 61 k).toInt ∧ (σ 61 k).toInt ≤ 20) := id hI102
  obtain ⟨i31, i32, i33, w34, w35⟩ : (1 ≤ (σ 55 10).toInt ∧ (σ 55 10).toInt ≤ 8) ∧ (1 ≤ (σ 55 12).toInt ∧ (σ 55 12).toInt ≤ 12) ∧ (0 ≤ (σ 55 13).toInt ∧ (σ 55 13).toInt ≤ 999) ∧ (∀ k : Nat, k < 8 → 0 ≤ (σ 62 k).toInt ∧ (σ 62 k).toInt ≤ 3) ∧ (∀ k : Nat, k < 8 → 0 ≤ (σ 67 k).toInt ∧ (σ 67 k).toInt ≤ 3) := id hI104
  obtain ⟨i36, w37⟩ : (0 ≤ (σ 55 15).toInt ∧ (σ 55 15).toInt ≤ 80) ∧ (∀ k : Nat, k < 2 → (-1) ≤ (σ 65 k).toInt ∧ (σ 65 k).toInt ≤ 80) := id hI105
  obtain ⟨i38, w39, w40, w41⟩ : (0 ≤ (σ 55 32).toInt ∧ (σ 55 32).toInt ≤ 20) ∧ (∀ k : Nat, k < 20 → 0 ≤ (σ 70 k).toInt ∧ (σ 70 k).toInt ≤ 6) ∧ (∀ k : Nat, k < 20 → 0 ≤ (σ 71 k).toInt ∧ (σ 71 k).toInt ≤ 8) ∧ (∀ k : Nat, k < 160 → 0 ≤ (σ 72 k).toInt ∧ (σ 72 k).toInt ≤ 3) := id hI106
  obtain ⟨i42, i43, w44⟩ : (0 ≤ (σ 55 47).toInt ∧ (σ 55 47).toInt ≤ 12) ∧ ((σ 55 47).toInt ≤ (σ 55 12).toInt) ∧ (∀ k : Nat, k < 12 → 0 ≤ (σ 80 k).toInt ∧ (σ 80 k).toInt ≤ 3) := id hI107
  refine lv_aload_n hx hb dL_law_526 rfl (lv_at hl 2 rfl) ?_
  refine lv_aload_n hx hb dL_law_527 rfl (lv_at hl 3 rfl) ?_
  refine lv_iload_n hx hb dL_law_528 rfl (lv_at hl 0 rfl) ?_
  refine lv_iconst (v := 1) hx hb dL_law_529 (by decide) ?_
  have g45 := jrg (rfl : x0.toInt = x0.toInt)
  refine lv_iadd hx hb dL_law_530 ?_
  refine lv_topi (fun x46 ex46 => ?_)
  have tx46 : x46.toInt = x0.toInt + 1 := (jadd ex46 rfl jz_1 (by omega) (by omega)).trans (by omega)
  refine va_sld hx hb hX hbl hbA hS (jin tx46 (by omega) (by omega)) dL_law_531 ?_
  have g47 := jrg (rfl : (xs x46.toNatClampNeg).toInt = (xs x46.toNatClampNeg).toInt)
  refine jcallV (As := [.int (xs x46.toNatClampNeg)]) (rest := []) ⟨hx, hb, hml, hown, hts⟩ hK hP hA hS hZ (c_X11_puts l D cI cL ad zz hJ σ τ (xs x46.toNatClampNeg) ((xs x46.toNatClampNeg).toInt) rfl hI2 hI16 hI18 hI22 hI31 hI38 hI47) cw_RL_57 (jc_0 cI cL ad σ τ) rfl ⟨Nat.le_of_ble_eq_true rfl, Nat.le_of_ble_eq_true rfl⟩ rfl rfl rfl hl.1 rfl (Nat.le_of_ble_eq_true rfl) dL_law_532 ⟨Nat.le_of_ble_eq_true rfl, Nat.le_of_ble_eq_true rfl⟩ (fun r49 σ48 τ48 H locs h48 hP hS => ?_)
  obtain ⟨rfl, f50, f51, I52, h48⟩ := h48
  refine lv_pop hx hb dL_law_535 rfl ?_
  refine lv_aload_n hx hb dL_law_536 rfl (lv_at hl 1 rfl) ?_
  refine lv_aload_n hx hb dL_law_537 rfl (lv_at hl 3 rfl) ?_
  refine lv_iload_n hx hb dL_law_538 rfl (lv_at hl 0 rfl) ?_
  refine lv_iconst (v := 1) hx hb dL_law_539 (by decide) ?_
  refine lv_iadd hx hb dL_law_540 ?_
  refine jtopr ex46.symm ?_
  refine va_sld hx hb hX hbl hbA hS (jin tx46 (by omega) (by omega)) dL_law_541 ?_
  have I54 : jI101 σ48 := jI101_fr (congrFun (f50 55 (by decide)) 4) (congrFun (f50 55 (by decide)) 5) (f50 56 (by decide)) (f50 57 (by decide)) (f50 58 (by decide)) (f50 59 (by decide)) hI101
  have I55 : jI102 σ48 := jI102_fr (congrFun (f50 55 (by decide)) 6) (f50 60 (by decide)) (f50 61 (by decide)) hI102
  have I56 : jI103 σ48 := jI103_fr (congrFun (f50 55 (by decide)) 9) hI103
  have I57 : jI104 σ48 := jI104_fr (congrFun (f50 55 (by decide)) 10) (congrFun (f50 55 (by decide)) 12) (congrFun (f50 55 (by decide)) 13) (f50 62 (by decide)) (f50 67 (by decide)) hI104
  have I58 : jI105 σ48 := jI105_fr (congrFun (f50 55 (by decide)) 15) (f50 65 (by decide)) hI105
  have I59 : jI106 σ48 := jI106_fr (congrFun (f50 55 (by decide)) 32) (f50 70 (by decide)) (f50 71 (by decide)) (f50 72 (by decide)) hI106
  have I60 : jI107 σ48 := jI107_fr (congrFun (f50 55 (by decide)) 12) (congrFun (f50 55 (by decide)) 47) (f50 80 (by decide)) hI107
  have I61 : jI119 σ48 := jI119_fr (f50 68 (by decide)) hI119
  have p62 : jKept σ48 := jKept.fr (f50 75 (by decide)) (f50 76 (by decide)) (f50 77 (by decide)) hs_jKept
  have p63 : jBook σ48 := jBook.fr (congrFun (f50 55 (by decide)) 47) (congrFun (f50 55 (by decide)) 10) (f50 81 (by decide)) hs_jBook
  refine jcallV (As := [.int (xs x46.toNatClampNeg)]) (rest := []) ⟨hx, hb, hml, hown, hts⟩ hK hP hA hS hZ (c_X12_puts l D cI cL ad zz hJ σ48 τ (xs x46.toNatClampNeg) ((xs x46.toNatClampNeg).toInt) rfl I54 I55 I56 I57 I58 I59 I60 I61 p62 p63) cw_RL_60 (jc_55 cI cL ad σ48 τ) rfl ⟨Nat.le_of_ble_eq_true rfl, Nat.le_of_ble_eq_true rfl⟩ rfl rfl rfl hl.1 rfl (Nat.le_of_ble_eq_true rfl) dL_law_542 ⟨Nat.le_of_ble_eq_true rfl, Nat.le_of_ble_eq_true rfl⟩ (fun r65 σ64 τ64 H locs h64 hP hS => ?_)
  obtain ⟨rfl, f66, f67, I68, p69, p70, h64⟩ := h64
  refine lv_pop hx hb dL_law_545 rfl ?_
  refine lv_goto (tgt := 1357) hx hb dL_law_546 (by decide) ?_
  obtain ⟨x72, ex72⟩ : ∃ y : Int32, y = x0 + 6 := ⟨_, rfl⟩
  have tx72 : x72.toInt = x0.toInt + 6 := (jadd ex72 rfl jz_6 (by omega) (by omega)).trans (by omega)
  refine lv_iinc (v := x72) (lv' := [(3, .int x72), (2, .ref (ad 55)), (1, .ref (ad 0)), (0, .ref b)]) hx hb dL_law_1357 hl (k := 0) rfl (by rw [ex72]; rfl) (by decide) rfl (fun ls hl => ?_)
  refine lv_goto (tgt := 18) hx hb dL_law_1360 (by decide) ?_
  have I73 : jI2 σ64 := jI2_fr ((congrFun (f66 2 (by decide)) 0).trans (congrFun (f50 2 (by decide)) 0)) ((congrFun (f66 2 (by decide)) 1).trans (congrFun (f50 2 (by decide)) 1)) ((congrFun (f66 2 (by decide)) 2).trans (congrFun (f50 2 (by decide)) 2)) ((congrFun (f66 2 (by decide)) 3).trans (congrFun (f50 2 (by decide)) 3)) ((f66 6 (by decide)).trans (f50 6 (by decide))) hI2
  have I74 : jI9 σ64 := jI9_fr ((congrFun (f66 9 (by decide)) 0).trans (congrFun (f50 9 (by decide)) 0)) ((f66 10 (by decide)).trans (f50 10 (by decide))) ((f66 11 (by decide)).trans (f50 11 (by decide))) hI9
  have I75 : jI12 σ64 := jI12_fr ((congrFun (f66 12 (by decide)) 0).trans (congrFun (f50 12 (by decide)) 0)) ((f66 13 (by decide)).trans (f50 13 (by decide))) hI12
  have I76 : jI16 σ64 := jI16_fr ((congrFun (f66 16 (by decide)) 0).trans (congrFun (f50 16 (by decide)) 0)) ((congrFun (f66 16 (by decide)) 1).trans (congrFun (f50 16 (by decide)) 1)) ((congrFun (f66 16 (by decide)) 2).trans (congrFun (f50 16 (by decide)) 2)) ((f66 17 (by decide)).trans (f50 17 (by decide))) hI16
  have I77 : jI18 σ64 := jI18_fr ((congrFun (f66 18 (by decide)) 0).trans (congrFun (f50 18 (by decide)) 0)) ((f66 19 (by decide)).trans (f50 19 (by decide))) hI18
  have I78 : jI22 σ64 := jI22_fr ((congrFun (f66 22 (by decide)) 0).trans (congrFun (f50 22 (by decide)) 0)) ((f66 23 (by decide)).trans (f50 23 (by decide))) hI22
  have I79 : jI31 σ64 := jI31_fr (congrFun (f66 31 (by decide)) 8) (f66 33 (by decide)) (f66 36 (by decide)) I52
  have I80 : jI38 σ64 := jI38_fr ((congrFun (f66 38 (by decide)) 0).trans (congrFun (f50 38 (by decide)) 0)) ((congrFun (f66 38 (by decide)) 1).trans (congrFun (f50 38 (by decide)) 1)) ((f66 39 (by decide)).trans (f50 39 (by decide))) hI38
  have I81 : jI43 σ64 := jI43_fr ((congrFun (f66 43 (by decide)) 8).trans (congrFun (f50 43 (by decide)) 8)) hI43
  have I82 : jI47 σ64 := jI47_fr ((congrFun (f66 47 (by decide)) 0).trans (congrFun (f50 47 (by decide)) 0)) ((f66 48 (by decide)).trans (f50 48 (by decide))) ((f66 49 (by decide)).trans (f50 49 (by decide))) hI47
  have I83 : jI50 σ64 := jI50_fr ((f66 52 (by decide)).trans (f50 52 (by decide))) hI50
  have I84 : jI101 σ64 := jI101_fr (f67 4 (by decide)) (f67 5 (by decide)) (f66 56 (by decide)) (f66 57 (by decide)) (f66 58 (by decide)) (f66 59 (by decide)) I54
  have I85 : jI102 σ64 := jI102_fr (f67 6 (by decide)) (f66 60 (by decide)) (f66 61 (by decide)) I55
  have I86 : jI103 σ64 := jI103_fr (f67 9 (by decide)) I56
  have I87 : jI104 σ64 := jI104_fr (f67 10 (by decide)) (f67 12 (by decide)) (f67 13 (by decide)) (f66 62 (by decide)) (f66 67 (by decide)) I57
  have I88 : jI105 σ64 := jI105_fr (f67 15 (by decide)) (f66 65 (by decide)) I58
  have I89 : jI106 σ64 := jI106_fr (f67 32 (by decide)) (f66 70 (by decide)) (f66 71 (by decide)) (f66 72 (by decide)) I59
  have I90 : jI107 σ64 := jI107_fr (f67 12 (by decide)) (f67 47 (by decide)) (f66 80 (by decide)) I60
  have I91 : jI109 σ64 := jI109_fr ((f67 50 (by decide)).trans (congrFun (f50 55 (by decide)) 50)) hI109
  have I92 : jI110 σ64 := jI110_fr ((f66 86 (by decide)).trans (f50 86 (by decide))) ((f66 87 (by decide)).trans (f50 87 (by decide))) hI110
  have I93 : jI111 σ64 := jI111_fr ((f66 79 (by decide)).trans (f50 79 (by decide))) hI111
  have z94 : (σ64 2 0).toInt = (σ 2 0).toInt := (congrArg Int32.toInt (show σ64 2 0 = (σ 2 0) from ((congrFun (f66 2 (by decide)) 0).trans (congrFun (f50 2 (by decide)) 0))))
  have z95 : (σ64 55 6).toInt = (σ 55 6).toInt := (congrArg Int32.toInt (show σ64 55 6 = (σ 55 6) from ((f67 6 (by decide)).trans (congrFun (f50 55 (by decide)) 6))))
  have z96 : (σ64 2 2).toInt = (σ 2 2).toInt := (congrArg Int32.toInt (show σ64 2 2 = (σ 2 2) from ((congrFun (f66 2 (by decide)) 2).trans (congrFun (f50 2 (by decide)) 2))))
  have z97 : (σ64 55 5).toInt = (σ 55 5).toInt := (congrArg Int32.toInt (show σ64 55 5 = (σ 55 5) from ((f67 5 (by decide)).trans (congrFun (f50 55 (by decide)) 5))))
  have z98 : (σ64 2 3).toInt = (σ 2 3).toInt := (congrArg Int32.toInt (show σ64 2 3 = (σ 2 3) from ((congrFun (f66 2 (by decide)) 3).trans (congrFun (f50 2 (by decide)) 3))))
  have z99 : (σ64 55 4).toInt = (σ 55 4).toInt := (congrArg Int32.toInt (show σ64 55 4 = (σ 55 4) from ((f67 4 (by decide)).trans (congrFun (f50 55 (by decide)) 4))))
  have z100 : (σ64 9 0).toInt = (σ 9 0).toInt := (congrArg Int32.toInt (show σ64 9 0 = (σ 9 0) from ((congrFun (f66 9 (by decide)) 0).trans (congrFun (f50 9 (by decide)) 0))))
  have z101 : (σ64 55 15).toInt = (σ 55 15).toInt := (congrArg Int32.toInt (show σ64 55 15 = (σ 55 15) from ((f67 15 (by decide)).trans (congrFun (f50 55 (by decide)) 15))))
  have z102 : (σ64 16 0).toInt = (σ 16 0).toInt := (congrArg Int32.toInt (show σ64 16 0 = (σ 16 0) from ((congrFun (f66 16 (by decide)) 0).trans (congrFun (f50 16 (by decide)) 0))))
  have z103 : (σ64 55 10).toInt = (σ 55 10).toInt := (congrArg Int32.toInt (show σ64 55 10 = (σ 55 10) from ((f67 10 (by decide)).trans (congrFun (f50 55 (by decide)) 10))))
  have z104 : (σ64 16 1).toInt = (σ 16 1).toInt := (congrArg Int32.toInt (show σ64 16 1 = (σ 16 1) from ((congrFun (f66 16 (by decide)) 1).trans (congrFun (f50 16 (by decide)) 1))))
  have z105 : (σ64 55 12).toInt = (σ 55 12).toInt := (congrArg Int32.toInt (show σ64 55 12 = (σ 55 12) from ((f67 12 (by decide)).trans (congrFun (f50 55 (by decide)) 12))))
  have z106 : (σ64 16 2).toInt = (σ 16 2).toInt := (congrArg Int32.toInt (show σ64 16 2 = (σ 16 2) from ((congrFun (f66 16 (by decide)) 2).trans (congrFun (f50 16 (by decide)) 2))))
  have z107 : (σ64 55 13).toInt = (σ 55 13).toInt := (congrArg Int32.toInt (show σ64 55 13 = (σ 55 13) from ((f67 13 (by decide)).trans (congrFun (f50 55 (by decide)) 13))))
  have z108 : (σ64 38 0).toInt = (σ 38 0).toInt := (congrArg Int32.toInt (show σ64 38 0 = (σ 38 0) from ((congrFun (f66 38 (by decide)) 0).trans (congrFun (f50 38 (by decide)) 0))))
  have z109 : (σ64 55 32).toInt = (σ 55 32).toInt := (congrArg Int32.toInt (show σ64 55 32 = (σ 55 32) from ((f67 32 (by decide)).trans (congrFun (f50 55 (by decide)) 32))))
  have z110 : (σ64 47 0).toInt = (σ 47 0).toInt := (congrArg Int32.toInt (show σ64 47 0 = (σ 47 0) from ((congrFun (f66 47 (by decide)) 0).trans (congrFun (f50 47 (by decide)) 0))))
  have z111 : (σ64 55 47).toInt = (σ 55 47).toInt := (congrArg Int32.toInt (show σ64 55 47 = (σ 55 47) from ((f67 47 (by decide)).trans (congrFun (f50 55 (by decide)) 47))))
  have z112 : (σ64 55 30).toInt = (σ 55 30).toInt := (congrArg Int32.toInt (show σ64 55 30 = (σ 55 30) from ((f67 30 (by decide)).trans (congrFun (f50 55 (by decide)) 30))))
  have z113 : (σ64 55 31).toInt = (σ 55 31).toInt := (congrArg Int32.toInt (show σ64 55 31 = (σ 55 31) from ((f67 31 (by decide)).trans (congrFun (f50 55 (by decide)) 31))))
  exact ih x72 σ64 τ _ _ ls (by have h9 := tx72; omega) ⟨I73, I74, I75, I76, I77, I78, I79, I80, I81, I82, I83, I84, I85, I86, I87, I88, I89, I90, I91, I92, I93, I68, p69, p70, (by omega), (by omega), (by omega), (by omega), (by omega), (by omega), (by omega), (by omega), (by omega), (by omega), (by omega), (show jNumP (σ64 3) (σ64 56) (σ64 6) (σ64 57) (σ64 7) (σ64 58) (σ64 8) (σ64 59) (σ64 55 6).toInt (σ64 55 4).toInt by rw [show σ64 3 = σ 3 from ((f66 3 (by decide)).trans (f50 3 (by decide))), show σ64 56 = σ 56 from ((f66 56 (by decide)).trans (f50 56 (by decide))), show σ64 6 = σ 6 from ((f66 6 (by decide)).trans (f50 6 (by decide))), show σ64 57 = σ 57 from ((f66 57 (by decide)).trans (f50 57 (by decide))), show σ64 7 = σ 7 from ((f66 7 (by decide)).trans (f50 7 (by decide))), show σ64 58 = σ 58 from ((f66 58 (by decide)).trans (f50 58 (by decide))), show σ64 8 = σ 8 from ((f66 8 (by decide)).trans (f50 8 (by decide))), show σ64 59 = σ 59 from ((f66 59 (by decide)).trans (f50 59 (by decide))), show (σ64 55 6).toInt = (σ 55 6).toInt from by omega, show (σ64 55 4).toInt = (σ 55 4).toInt from by omega]; exact hr0), (show jOvP (σ64 56) (σ64 57) (σ64 58) (σ64 59) (σ64 55 4).toInt by rw [show σ64 56 = σ 56 from ((f66 56 (by decide)).trans (f50 56 (by decide))), show σ64 57 = σ 57 from ((f66 57 (by decide)).trans (f50 57 (by decide))), show σ64 58 = σ 58 from ((f66 58 (by decide)).trans (f50 58 (by decide))), show σ64 59 = σ 59 from ((f66 59 (by decide)).trans (f50 59 (by decide))), show (σ64 55 4).toInt = (σ 55 4).toInt from by omega]; exact hr1), (show jTp (σ64 10) (σ64 63) (σ64 55 15).toInt by rw [show σ64 10 = σ 10 from ((f66 10 (by decide)).trans (f50 10 (by decide))), show σ64 63 = σ 63 from ((f66 63 (by decide)).trans (f50 63 (by decide)))]; exact hr2.le (by omega)), (show jSo (σ64 17) (σ64 62) (σ64 16 0).toInt by rw [show σ64 17 = σ 17 from ((f66 17 (by decide)).trans (f50 17 (by decide))), show σ64 62 = σ 62 from ((f66 62 (by decide)).trans (f50 62 (by decide))), show (σ64 16 0).toInt = (σ 16 0).toInt from by omega]; exact hr3), (show jShP (σ64 51) (σ64 52) (σ64 53) (σ64 86) (σ64 87) (σ64 55 32).toInt by rw [show σ64 51 = σ 51 from ((f66 51 (by decide)).trans (f50 51 (by decide))), show σ64 52 = σ 52 from ((f66 52 (by decide)).trans (f50 52 (by decide))), show σ64 53 = σ 53 from ((f66 53 (by decide)).trans (f50 53 (by decide))), show σ64 86 = σ 86 from ((f66 86 (by decide)).trans (f50 86 (by decide))), show σ64 87 = σ 87 from ((f66 87 (by decide)).trans (f50 87 (by decide)))]; exact (hr4.up (by omega) (by omega))), (show jEl (σ64 51) (σ64 52) (τ 54) (τ 88) by rw [show σ64 51 = σ 51 from ((f66 51 (by decide)).trans (f50 51 (by decide))), show σ64 52 = σ 52 from ((f66 52 (by decide)).trans (f50 52 (by decide)))]; exact hr5), (show jByP (σ64 51) (σ64 52) (τ 54) by rw [show σ64 51 = σ 51 from ((f66 51 (by decide)).trans (f50 51 (by decide))), show σ64 52 = σ 52 from ((f66 52 (by decide)).trans (f50 52 (by decide)))]; exact hr6), (show jBk (σ64 48) (σ64 80) (σ64 49) (σ64 81) (σ64 55 47).toInt by rw [show σ64 48 = σ 48 from ((f66 48 (by decide)).trans (f50 48 (by decide))), show σ64 49 = σ 49 from ((f66 49 (by decide)).trans (f50 49 (by decide))), show σ64 80 = σ 80 from ((f66 80 (by decide)).trans (f50 80 (by decide))), show σ64 81 = σ 81 from ((f66 81 (by decide)).trans (f50 81 (by decide))), show (σ64 55 47).toInt = (σ 55 47).toInt from by omega]; exact hr7)⟩ hP hS (lv_sub hl [0, 1, 2, 3] rfl)
set_option maxHeartbeats 4000000 in
set_option maxRecDepth 100000 in
theorem law_case_11 {p : Program} {e : Env} {s : State} {m : MethodId} {below : List Frame} {meth : Method} {c : Code} (l : Launch) {b L : Nat} {xs : Nat → Int32} {D : va_G} {cI cL : ClassId} {ad zz : Nat → Nat} (C0 : lw_At p s m meth c b L xs) (hJ : jD ad) (hA : ∀ q, jA ad q → s.heap.size ≤ q) (hK : jK D cI cL s) (hZ : jZ zz (fun q : Nat => s.heap.size ≤ q) s s.heap) {x0 : Int32} (hx0 : 0 ≤ x0.toInt) (hxL : x0.toInt + 6 ≤ (L : Int)) (hL : L ≤ 384) {σ : Nat → Nat → Int32} {τ : Nat → Nat → Int64} {H : Heap} {locs : List Loc} (hS : va_S (fun q : Nat => s.heap.size ≤ q) s.heap H locs) {ls : Array Slot} (hAll : jAll σ τ) (hP : jH D cI cL ad σ τ H) (hl : lv_has ls 4 [(3, .int x0), (2, .ref (ad 55)), (1, .ref (ad 0)), (0, .ref b)]) (ih : ∀ (x1 : Int32) (σ : Nat → Nat → Int32) (τ : Nat → Nat → Int64) (H : Heap) (locs : List Loc) (ls : Array Slot), x1.toInt = x0.toInt + 6 → jAll σ τ → jH D cI cL ad σ τ H → va_S (fun q : Nat => s.heap.size ≤ q) s.heap H locs → lv_has ls 4 [(3, .int x1), (2, .ref (ad 55)), (1, .ref (ad 0)), (0, .ref b)] → W p l e room_1 s m #[Value.ref b] below meth c H locs 90 348600 (lw_Z below #[Value.ref b] s) (F0 m 18 ls [])) : W p l e room_1 s m #[Value.ref b] below meth c H locs 90 348600 (lw_Z below #[Value.ref b] s) (F0 m 549 ls []) := by
  obtain ⟨hx, hb, hr, hml, hown, hts0, hX, hbl, hlocks, hgv⟩ := C0
  have hts : ∀ w ∈ wsL_law, w.before #[Value.ref b] s = true := fun w h => hts0 w (wsL_law_in w h)
  have hbA : ¬ (fun q : Nat => s.heap.size ≤ q) b := Nat.not_le.mpr hbl
  have hown : s.vm.findClass RL = some m.cls := hown
  obtain ⟨hI2, hI9, hI12, hI16, hI18, hI22, hI31, hI38, hI43, hI47, hI50, hI101, hI102, hI103, hI104, hI105, hI106, hI107, hI109, hI110, hI111, hI119, hs_jKept, hs_jBook, ht0, ht1, ht2, ht3, ht4, ht5, ht6, ht7, ht8, ht9, ht10, hr0, hr1, hr2, hr3, hr4, hr5, hr6, hr7⟩ := hAll
  have hL9 : (L : Int) ≤ 384 := by omega
  obtain ⟨i1, i2, i3, i4, i5, w6⟩ : (0 ≤ (σ 2 0).toInt ∧ (σ 2 0).toInt ≤ 4) ∧ (0 ≤ (σ 2 1).toInt ∧ (σ 2 1).toInt ≤ 3) ∧ (0 ≤ (σ 2 2).toInt) ∧ (0 ≤ (σ 2 3).toInt) ∧ ((σ 2 2).toInt + (σ 2 3).toInt ≤ 40) ∧ (∀ k : Nat, k < 40 → 0 ≤ (σ 6 k).toInt ∧ (σ 6 k).toInt ≤ 67) := id hI2
  obtain ⟨i7, w8, w9⟩ : (0 ≤ (σ 9 0).toInt ∧ (σ 9 0).toInt ≤ 80) ∧ (∀ k : Nat, k < 80 → 0 ≤ (σ 10 k).toInt ∧ (σ 10 k).toInt ≤ 255) ∧ (∀ k : Nat, k < 8 → 0 ≤ (σ 11 k).toInt ∧ (σ 11 k).toInt ≤ 3) := id hI9
  obtain ⟨i10, i11, i12, w13⟩ : (1 ≤ (σ 16 0).toInt ∧ (σ 16 0).toInt ≤ 8) ∧ (1 ≤ (σ 16 1).toInt ∧ (σ 16 1).toInt ≤ 12) ∧ (0 ≤ (σ 16 2).toInt ∧ (σ 16 2).toInt ≤ 999) ∧ (∀ k : Nat, k < 8 → 0 ≤ (σ 17 k).toInt ∧ (σ 17 k).toInt ≤ 3) := id hI16
  obtain ⟨i14, i15, w16⟩ : (0 ≤ (σ 38 0).toInt ∧ (σ 38 0).toInt ≤ 20) ∧ (0 ≤ (σ 38 1).toInt ∧ (σ 38 1).toInt ≤ 1000) ∧ (∀ k : Nat, k < 20 → 0 ≤ (σ 39 k).toInt ∧ (σ 39 k).toInt ≤ 6) := id hI38
  obtain ⟨i17, w18, w19⟩ : (0 ≤ (σ 47 0).toInt ∧ (σ 47 0).toInt ≤ 12) ∧ (∀ k : Nat, k < 12 → 0 ≤ (σ 48 k).toInt ∧ (σ 48 k).toInt ≤ 3) ∧ (∀ k : Nat, k < 12 → 0 ≤ (σ 49 k).toInt ∧ (σ 49 k).toInt ≤ 1) := id hI47
  have w20 : ∀ k : Nat, k < 6 → 0 ≤ (σ 52 k).toInt ∧ (σ 52 k).toInt ≤ 60 := hI50
  obtain ⟨i21, i22, i23, w24, w25, w26, w27⟩ : (0 ≤ (σ 55 5).toInt) ∧ ((σ 55 5).toInt ≤ (σ 55 4).toInt) ∧ ((σ 55 4).toInt ≤ 40) ∧ (∀ k : Nat, k < 68 → (-200) ≤ (σ 56 k).toInt ∧ (σ 56 k).toInt ≤ 500) ∧ (∀ k : Nat, k < 40 → 0 ≤ (σ 57 k).toInt ∧ (σ 57 k).toInt ≤ 67) ∧ (∀ k : Nat, k < 40 → (-200) ≤ (σ 58 k).toInt ∧ (σ 58 k).toInt ≤ 500) ∧ (∀ k : Nat, k < 40 → (-200) ≤ (σ 59 k).toInt ∧ (σ 59 k).toInt ≤ 500) := id hI101
  obtain ⟨i28, w29, w30⟩ : (0 ≤ (σ 55 6).toInt ∧ (σ 55 6).toInt ≤ 4) ∧ (∀ k : Nat, k < 4 → 0 ≤ (σ 60 k).toInt ∧ (σ 60 k).toInt ≤ 50) ∧ (∀ k : Nat, k < 4 → 0 ≤ (σ 61 k).toInt ∧ (σ 61 k).toInt ≤ 20) := id hI102
  obtain ⟨i31, i32, i33, w34, w35⟩ : (1 ≤ (σ 55 10).toInt ∧ (σ 55 10).toInt ≤ 8) ∧ (1 ≤ (σ 55 12).toInt ∧ (σ 55 12).toInt ≤ 12) ∧ (0 ≤ (σ 55 13).toInt ∧ (σ 55 13).toInt ≤ 999) ∧ (∀ k : Nat, k < 8 → 0 ≤ (σ 62 k).toInt ∧ (σ 62 k).toInt ≤ 3) ∧ (∀ k : Nat, k < 8 → 0 ≤ (σ 67 k).toInt ∧ (σ 67 k).toInt ≤ 3) := id hI104
  obtain ⟨i36, w37⟩ : (0 ≤ (σ 55 15).toInt ∧ (σ 55 15).toInt ≤ 80) ∧ (∀ k : Nat, k < 2 → (-1) ≤ (σ 65 k).toInt ∧ (σ 65 k).toInt ≤ 80) := id hI105
  obtain ⟨i38, w39, w40, w41⟩ : (0 ≤ (σ 55 32).toInt ∧ (σ 55 32).toInt ≤ 20) ∧ (∀ k : Nat, k < 20 → 0 ≤ (σ 70 k).toInt ∧ (σ 70 k).toInt ≤ 6) ∧ (∀ k : Nat, k < 20 → 0 ≤ (σ 71 k).toInt ∧ (σ 71 k).toInt ≤ 8) ∧ (∀ k : Nat, k < 160 → 0 ≤ (σ 72 k).toInt ∧ (σ 72 k).toInt ≤ 3) := id hI106
  obtain ⟨i42, i43, w44⟩ : (0 ≤ (σ 55 47).toInt ∧ (σ 55 47).toInt ≤ 12) ∧ ((σ 55 47).toInt ≤ (σ 55 12).toInt) ∧ (∀ k : Nat, k < 12 → 0 ≤ (σ 80 k).toInt ∧ (σ 80 k).toInt ≤ 3) := id hI107
  refine lv_aload_n hx hb dL_law_549 rfl (lv_at hl 2 rfl) ?_
  refine lv_aload_n hx hb dL_law_550 rfl (lv_at hl 3 rfl) ?_
  refine lv_iload_n hx hb dL_law_551 rfl (lv_at hl 0 rfl) ?_
  refine lv_iconst (v := 1) hx hb dL_law_552 (by decide) ?_
  have g45 := jrg (rfl : x0.toInt = x0.toInt)
  refine lv_iadd hx hb dL_law_553 ?_
  refine lv_topi (fun x46 ex46 => ?_)
  have tx46 : x46.toInt = x0.toInt + 1 := (jadd ex46 rfl jz_1 (by omega) (by omega)).trans (by omega)
  refine va_sld hx hb hX hbl hbA hS (jin tx46 (by omega) (by omega)) dL_law_554 ?_
  have g47 := jrg (rfl : (xs x46.toNatClampNeg).toInt = (xs x46.toNatClampNeg).toInt)
  refine jcallV (As := [.int (xs x46.toNatClampNeg)]) (rest := []) ⟨hx, hb, hml, hown, hts⟩ hK hP hA hS hZ (c_X11_mean l D cI cL ad zz hJ σ τ (xs x46.toNatClampNeg) ((xs x46.toNatClampNeg).toInt) rfl hI2 hI16 hI18 hI22 hI31 hI38) cw_RL_61 (jc_0 cI cL ad σ τ) rfl ⟨Nat.le_of_ble_eq_true rfl, Nat.le_of_ble_eq_true rfl⟩ rfl rfl rfl hl.1 rfl (Nat.le_of_ble_eq_true rfl) dL_law_555 ⟨Nat.le_of_ble_eq_true rfl, Nat.le_of_ble_eq_true rfl⟩ (fun r49 σ48 τ48 H locs h48 hP hS => ?_)
  obtain ⟨rfl, f50, f51, I52, h48⟩ := h48
  refine lv_pop hx hb dL_law_558 rfl ?_
  refine lv_aload_n hx hb dL_law_559 rfl (lv_at hl 1 rfl) ?_
  refine lv_aload_n hx hb dL_law_560 rfl (lv_at hl 3 rfl) ?_
  refine lv_iload_n hx hb dL_law_561 rfl (lv_at hl 0 rfl) ?_
  refine lv_iconst (v := 1) hx hb dL_law_562 (by decide) ?_
  refine lv_iadd hx hb dL_law_563 ?_
  refine jtopr ex46.symm ?_
  refine va_sld hx hb hX hbl hbA hS (jin tx46 (by omega) (by omega)) dL_law_564 ?_
  have I54 : jI101 σ48 := jI101_fr (congrFun (f50 55 (by decide)) 4) (congrFun (f50 55 (by decide)) 5) (f50 56 (by decide)) (f50 57 (by decide)) (f50 58 (by decide)) (f50 59 (by decide)) hI101
  have I55 : jI102 σ48 := jI102_fr (congrFun (f50 55 (by decide)) 6) (f50 60 (by decide)) (f50 61 (by decide)) hI102
  have I56 : jI103 σ48 := jI103_fr (congrFun (f50 55 (by decide)) 9) hI103
  have I57 : jI104 σ48 := jI104_fr (congrFun (f50 55 (by decide)) 10) (congrFun (f50 55 (by decide)) 12) (congrFun (f50 55 (by decide)) 13) (f50 62 (by decide)) (f50 67 (by decide)) hI104
  have I58 : jI105 σ48 := jI105_fr (congrFun (f50 55 (by decide)) 15) (f50 65 (by decide)) hI105
  have I59 : jI106 σ48 := jI106_fr (congrFun (f50 55 (by decide)) 32) (f50 70 (by decide)) (f50 71 (by decide)) (f50 72 (by decide)) hI106
  have I60 : jI119 σ48 := jI119_fr (f50 68 (by decide)) hI119
  have p61 : jKept σ48 := jKept.fr (f50 75 (by decide)) (f50 76 (by decide)) (f50 77 (by decide)) hs_jKept
  refine jcallV (As := [.int (xs x46.toNatClampNeg)]) (rest := []) ⟨hx, hb, hml, hown, hts⟩ hK hP hA hS hZ (c_X12_mean l D cI cL ad zz hJ σ48 τ (xs x46.toNatClampNeg) ((xs x46.toNatClampNeg).toInt) rfl I54 I55 I56 I57 I58 I59 I60 p61) cw_RL_64 (jc_55 cI cL ad σ48 τ) rfl ⟨Nat.le_of_ble_eq_true rfl, Nat.le_of_ble_eq_true rfl⟩ rfl rfl rfl hl.1 rfl (Nat.le_of_ble_eq_true rfl) dL_law_565 ⟨Nat.le_of_ble_eq_true rfl, Nat.le_of_ble_eq_true rfl⟩ (fun r63 σ62 τ62 H locs h62 hP hS => ?_)
  obtain ⟨rfl, f64, f65, I66, p67, h62⟩ := h62
  refine lv_pop hx hb dL_law_568 rfl ?_
  refine lv_goto (tgt := 1357) hx hb dL_law_569 (by decide) ?_
  obtain ⟨x69, ex69⟩ : ∃ y : Int32, y = x0 + 6 := ⟨_, rfl⟩
  have tx69 : x69.toInt = x0.toInt + 6 := (jadd ex69 rfl jz_6 (by omega) (by omega)).trans (by omega)
  refine lv_iinc (v := x69) (lv' := [(3, .int x69), (2, .ref (ad 55)), (1, .ref (ad 0)), (0, .ref b)]) hx hb dL_law_1357 hl (k := 0) rfl (by rw [ex69]; rfl) (by decide) rfl (fun ls hl => ?_)
  refine lv_goto (tgt := 18) hx hb dL_law_1360 (by decide) ?_
  have I70 : jI2 σ62 := jI2_fr ((congrFun (f64 2 (by decide)) 0).trans (congrFun (f50 2 (by decide)) 0)) ((congrFun (f64 2 (by decide)) 1).trans (congrFun (f50 2 (by decide)) 1)) ((congrFun (f64 2 (by decide)) 2).trans (congrFun (f50 2 (by decide)) 2)) ((congrFun (f64 2 (by decide)) 3).trans (congrFun (f50 2 (by decide)) 3)) ((f64 6 (by decide)).trans (f50 6 (by decide))) hI2
  have I71 : jI9 σ62 := jI9_fr ((congrFun (f64 9 (by decide)) 0).trans (congrFun (f50 9 (by decide)) 0)) ((f64 10 (by decide)).trans (f50 10 (by decide))) ((f64 11 (by decide)).trans (f50 11 (by decide))) hI9
  have I72 : jI12 σ62 := jI12_fr ((congrFun (f64 12 (by decide)) 0).trans (congrFun (f50 12 (by decide)) 0)) ((f64 13 (by decide)).trans (f50 13 (by decide))) hI12
  have I73 : jI16 σ62 := jI16_fr ((congrFun (f64 16 (by decide)) 0).trans (congrFun (f50 16 (by decide)) 0)) ((congrFun (f64 16 (by decide)) 1).trans (congrFun (f50 16 (by decide)) 1)) ((congrFun (f64 16 (by decide)) 2).trans (congrFun (f50 16 (by decide)) 2)) ((f64 17 (by decide)).trans (f50 17 (by decide))) hI16
  have I74 : jI18 σ62 := jI18_fr ((congrFun (f64 18 (by decide)) 0).trans (congrFun (f50 18 (by decide)) 0)) ((f64 19 (by decide)).trans (f50 19 (by decide))) hI18
  have I75 : jI22 σ62 := jI22_fr ((congrFun (f64 22 (by decide)) 0).trans (congrFun (f50 22 (by decide)) 0)) ((f64 23 (by decide)).trans (f50 23 (by decide))) hI22
  have I76 : jI31 σ62 := jI31_fr (congrFun (f64 31 (by decide)) 8) (f64 33 (by decide)) (f64 36 (by decide)) I52
  have I77 : jI38 σ62 := jI38_fr ((congrFun (f64 38 (by decide)) 0).trans (congrFun (f50 38 (by decide)) 0)) ((congrFun (f64 38 (by decide)) 1).trans (congrFun (f50 38 (by decide)) 1)) ((f64 39 (by decide)).trans (f50 39 (by decide))) hI38
  have I78 : jI43 σ62 := jI43_fr ((congrFun (f64 43 (by decide)) 8).trans (congrFun (f50 43 (by decide)) 8)) hI43
  have I79 : jI47 σ62 := jI47_fr ((congrFun (f64 47 (by decide)) 0).trans (congrFun (f50 47 (by decide)) 0)) ((f64 48 (by decide)).trans (f50 48 (by decide))) ((f64 49 (by decide)).trans (f50 49 (by decide))) hI47
  have I80 : jI50 σ62 := jI50_fr ((f64 52 (by decide)).trans (f50 52 (by decide))) hI50
  have I81 : jI101 σ62 := jI101_fr (f65 4 (by decide)) (f65 5 (by decide)) (f64 56 (by decide)) (f64 57 (by decide)) (f64 58 (by decide)) (f64 59 (by decide)) I54
  have I82 : jI102 σ62 := jI102_fr (f65 6 (by decide)) (f64 60 (by decide)) (f64 61 (by decide)) I55
  have I83 : jI103 σ62 := jI103_fr (f65 9 (by decide)) I56
  have I84 : jI104 σ62 := jI104_fr (f65 10 (by decide)) (f65 12 (by decide)) (f65 13 (by decide)) (f64 62 (by decide)) (f64 67 (by decide)) I57
  have I85 : jI105 σ62 := jI105_fr (f65 15 (by decide)) (f64 65 (by decide)) I58
  have I86 : jI106 σ62 := jI106_fr (f65 32 (by decide)) (f64 70 (by decide)) (f64 71 (by decide)) (f64 72 (by decide)) I59
  have I87 : jI107 σ62 := jI107_fr ((f65 12 (by decide)).trans (congrFun (f50 55 (by decide)) 12)) ((f65 47 (by decide)).trans (congrFun (f50 55 (by decide)) 47)) ((f64 80 (by decide)).trans (f50 80 (by decide))) hI107
  have I88 : jI109 σ62 := jI109_fr ((f65 50 (by decide)).trans (congrFun (f50 55 (by decide)) 50)) hI109
  have I89 : jI110 σ62 := jI110_fr ((f64 86 (by decide)).trans (f50 86 (by decide))) ((f64 87 (by decide)).trans (f50 87 (by decide))) hI110
  have I90 : jI111 σ62 := jI111_fr ((f64 79 (by decide)).trans (f50 79 (by decide))) hI111
  have p91 : jBook σ62 := jBook.fr ((f65 47 (by decide)).trans (congrFun (f50 55 (by decide)) 47)) ((f65 10 (by decide)).trans (congrFun (f50 55 (by decide)) 10)) ((f64 81 (by decide)).trans (f50 81 (by decide))) hs_jBook
  have z92 : (σ62 2 0).toInt = (σ 2 0).toInt := (congrArg Int32.toInt (show σ62 2 0 = (σ 2 0) from ((congrFun (f64 2 (by decide)) 0).trans (congrFun (f50 2 (by decide)) 0))))
  have z93 : (σ62 55 6).toInt = (σ 55 6).toInt := (congrArg Int32.toInt (show σ62 55 6 = (σ 55 6) from ((f65 6 (by decide)).trans (congrFun (f50 55 (by decide)) 6))))
  have z94 : (σ62 2 2).toInt = (σ 2 2).toInt := (congrArg Int32.toInt (show σ62 2 2 = (σ 2 2) from ((congrFun (f64 2 (by decide)) 2).trans (congrFun (f50 2 (by decide)) 2))))
  have z95 : (σ62 55 5).toInt = (σ 55 5).toInt := (congrArg Int32.toInt (show σ62 55 5 = (σ 55 5) from ((f65 5 (by decide)).trans (congrFun (f50 55 (by decide)) 5))))
  have z96 : (σ62 2 3).toInt = (σ 2 3).toInt := (congrArg Int32.toInt (show σ62 2 3 = (σ 2 3) from ((congrFun (f64 2 (by decide)) 3).trans (congrFun (f50 2 (by decide)) 3))))
  have z97 : (σ62 55 4).toInt = (σ 55 4).toInt := (congrArg Int32.toInt (show σ62 55 4 = (σ 55 4) from ((f65 4 (by decide)).trans (congrFun (f50 55 (by decide)) 4))))
  have z98 : (σ62 9 0).toInt = (σ 9 0).toInt := (congrArg Int32.toInt (show σ62 9 0 = (σ 9 0) from ((congrFun (f64 9 (by decide)) 0).trans (congrFun (f50 9 (by decide)) 0))))
  have z99 : (σ62 55 15).toInt = (σ 55 15).toInt := (congrArg Int32.toInt (show σ62 55 15 = (σ 55 15) from ((f65 15 (by decide)).trans (congrFun (f50 55 (by decide)) 15))))
  have z100 : (σ62 16 0).toInt = (σ 16 0).toInt := (congrArg Int32.toInt (show σ62 16 0 = (σ 16 0) from ((congrFun (f64 16 (by decide)) 0).trans (congrFun (f50 16 (by decide)) 0))))
  have z101 : (σ62 55 10).toInt = (σ 55 10).toInt := (congrArg Int32.toInt (show σ62 55 10 = (σ 55 10) from ((f65 10 (by decide)).trans (congrFun (f50 55 (by decide)) 10))))
  have z102 : (σ62 16 1).toInt = (σ 16 1).toInt := (congrArg Int32.toInt (show σ62 16 1 = (σ 16 1) from ((congrFun (f64 16 (by decide)) 1).trans (congrFun (f50 16 (by decide)) 1))))
  have z103 : (σ62 55 12).toInt = (σ 55 12).toInt := (congrArg Int32.toInt (show σ62 55 12 = (σ 55 12) from ((f65 12 (by decide)).trans (congrFun (f50 55 (by decide)) 12))))
  have z104 : (σ62 16 2).toInt = (σ 16 2).toInt := (congrArg Int32.toInt (show σ62 16 2 = (σ 16 2) from ((congrFun (f64 16 (by decide)) 2).trans (congrFun (f50 16 (by decide)) 2))))
  have z105 : (σ62 55 13).toInt = (σ 55 13).toInt := (congrArg Int32.toInt (show σ62 55 13 = (σ 55 13) from ((f65 13 (by decide)).trans (congrFun (f50 55 (by decide)) 13))))
  have z106 : (σ62 38 0).toInt = (σ 38 0).toInt := (congrArg Int32.toInt (show σ62 38 0 = (σ 38 0) from ((congrFun (f64 38 (by decide)) 0).trans (congrFun (f50 38 (by decide)) 0))))
  have z107 : (σ62 55 32).toInt = (σ 55 32).toInt := (congrArg Int32.toInt (show σ62 55 32 = (σ 55 32) from ((f65 32 (by decide)).trans (congrFun (f50 55 (by decide)) 32))))
  have z108 : (σ62 47 0).toInt = (σ 47 0).toInt := (congrArg Int32.toInt (show σ62 47 0 = (σ 47 0) from ((congrFun (f64 47 (by decide)) 0).trans (congrFun (f50 47 (by decide)) 0))))
  have z109 : (σ62 55 47).toInt = (σ 55 47).toInt := (congrArg Int32.toInt (show σ62 55 47 = (σ 55 47) from ((f65 47 (by decide)).trans (congrFun (f50 55 (by decide)) 47))))
  have z110 : (σ62 55 30).toInt = (σ 55 30).toInt := (congrArg Int32.toInt (show σ62 55 30 = (σ 55 30) from ((f65 30 (by decide)).trans (congrFun (f50 55 (by decide)) 30))))
  have z111 : (σ62 55 31).toInt = (σ 55 31).toInt := (congrArg Int32.toInt (show σ62 55 31 = (σ 55 31) from ((f65 31 (by decide)).trans (congrFun (f50 55 (by decide)) 31))))
  exact ih x69 σ62 τ _ _ ls (by have h9 := tx69; omega) ⟨I70, I71, I72, I73, I74, I75, I76, I77, I78, I79, I80, I81, I82, I83, I84, I85, I86, I87, I88, I89, I90, I66, p67, p91, (by omega), (by omega), (by omega), (by omega), (by omega), (by omega), (by omega), (by omega), (by omega), (by omega), (by omega), (show jNumP (σ62 3) (σ62 56) (σ62 6) (σ62 57) (σ62 7) (σ62 58) (σ62 8) (σ62 59) (σ62 55 6).toInt (σ62 55 4).toInt by rw [show σ62 3 = σ 3 from ((f64 3 (by decide)).trans (f50 3 (by decide))), show σ62 56 = σ 56 from ((f64 56 (by decide)).trans (f50 56 (by decide))), show σ62 6 = σ 6 from ((f64 6 (by decide)).trans (f50 6 (by decide))), show σ62 57 = σ 57 from ((f64 57 (by decide)).trans (f50 57 (by decide))), show σ62 7 = σ 7 from ((f64 7 (by decide)).trans (f50 7 (by decide))), show σ62 58 = σ 58 from ((f64 58 (by decide)).trans (f50 58 (by decide))), show σ62 8 = σ 8 from ((f64 8 (by decide)).trans (f50 8 (by decide))), show σ62 59 = σ 59 from ((f64 59 (by decide)).trans (f50 59 (by decide))), show (σ62 55 6).toInt = (σ 55 6).toInt from by omega, show (σ62 55 4).toInt = (σ 55 4).toInt from by omega]; exact hr0), (show jOvP (σ62 56) (σ62 57) (σ62 58) (σ62 59) (σ62 55 4).toInt by rw [show σ62 56 = σ 56 from ((f64 56 (by decide)).trans (f50 56 (by decide))), show σ62 57 = σ 57 from ((f64 57 (by decide)).trans (f50 57 (by decide))), show σ62 58 = σ 58 from ((f64 58 (by decide)).trans (f50 58 (by decide))), show σ62 59 = σ 59 from ((f64 59 (by decide)).trans (f50 59 (by decide))), show (σ62 55 4).toInt = (σ 55 4).toInt from by omega]; exact hr1), (show jTp (σ62 10) (σ62 63) (σ62 55 15).toInt by rw [show σ62 10 = σ 10 from ((f64 10 (by decide)).trans (f50 10 (by decide))), show σ62 63 = σ 63 from ((f64 63 (by decide)).trans (f50 63 (by decide)))]; exact hr2.le (by omega)), (show jSo (σ62 17) (σ62 62) (σ62 16 0).toInt by rw [show σ62 17 = σ 17 from ((f64 17 (by decide)).trans (f50 17 (by decide))), show σ62 62 = σ 62 from ((f64 62 (by decide)).trans (f50 62 (by decide))), show (σ62 16 0).toInt = (σ 16 0).toInt from by omega]; exact hr3), (show jShP (σ62 51) (σ62 52) (σ62 53) (σ62 86) (σ62 87) (σ62 55 32).toInt by rw [show σ62 51 = σ 51 from ((f64 51 (by decide)).trans (f50 51 (by decide))), show σ62 52 = σ 52 from ((f64 52 (by decide)).trans (f50 52 (by decide))), show σ62 53 = σ 53 from ((f64 53 (by decide)).trans (f50 53 (by decide))), show σ62 86 = σ 86 from ((f64 86 (by decide)).trans (f50 86 (by decide))), show σ62 87 = σ 87 from ((f64 87 (by decide)).trans (f50 87 (by decide)))]; exact (hr4.up (by omega) (by omega))), (show jEl (σ62 51) (σ62 52) (τ 54) (τ 88) by rw [show σ62 51 = σ 51 from ((f64 51 (by decide)).trans (f50 51 (by decide))), show σ62 52 = σ 52 from ((f64 52 (by decide)).trans (f50 52 (by decide)))]; exact hr5), (show jByP (σ62 51) (σ62 52) (τ 54) by rw [show σ62 51 = σ 51 from ((f64 51 (by decide)).trans (f50 51 (by decide))), show σ62 52 = σ 52 from ((f64 52 (by decide)).trans (f50 52 (by decide)))]; exact hr6), (show jBk (σ62 48) (σ62 80) (σ62 49) (σ62 81) (σ62 55 47).toInt by rw [show σ62 48 = σ 48 from ((f64 48 (by decide)).trans (f50 48 (by decide))), show σ62 49 = σ 49 from ((f64 49 (by decide)).trans (f50 49 (by decide))), show σ62 80 = σ 80 from ((f64 80 (by decide)).trans (f50 80 (by decide))), show σ62 81 = σ 81 from ((f64 81 (by decide)).trans (f50 81 (by decide))), show (σ62 55 47).toInt = (σ 55 47).toInt from by omega]; exact hr7)⟩ hP hS (lv_sub hl [0, 1, 2, 3] rfl)
set_option maxHeartbeats 4000000 in
set_option maxRecDepth 100000 in
theorem law_case_12 {p : Program} {e : Env} {s : State} {m : MethodId} {below : List Frame} {meth : Method} {c : Code} (l : Launch) {b L : Nat} {xs : Nat → Int32} {D : va_G} {cI cL : ClassId} {ad zz : Nat → Nat} (C0 : lw_At p s m meth c b L xs) (hJ : jD ad) (hA : ∀ q, jA ad q → s.heap.size ≤ q) (hK : jK D cI cL s) (hZ : jZ zz (fun q : Nat => s.heap.size ≤ q) s s.heap) {x0 : Int32} (hx0 : 0 ≤ x0.toInt) (hxL : x0.toInt + 6 ≤ (L : Int)) (hL : L ≤ 384) {σ : Nat → Nat → Int32} {τ : Nat → Nat → Int64} {H : Heap} {locs : List Loc} (hS : va_S (fun q : Nat => s.heap.size ≤ q) s.heap H locs) {ls : Array Slot} (hAll : jAll σ τ) (hP : jH D cI cL ad σ τ H) (hl : lv_has ls 4 [(3, .int x0), (2, .ref (ad 55)), (1, .ref (ad 0)), (0, .ref b)]) (ih : ∀ (x1 : Int32) (σ : Nat → Nat → Int32) (τ : Nat → Nat → Int64) (H : Heap) (locs : List Loc) (ls : Array Slot), x1.toInt = x0.toInt + 6 → jAll σ τ → jH D cI cL ad σ τ H → va_S (fun q : Nat => s.heap.size ≤ q) s.heap H locs → lv_has ls 4 [(3, .int x1), (2, .ref (ad 55)), (1, .ref (ad 0)), (0, .ref b)] → W p l e room_1 s m #[Value.ref b] below meth c H locs 90 348600 (lw_Z below #[Value.ref b] s) (F0 m 18 ls [])) : W p l e room_1 s m #[Value.ref b] below meth c H locs 90 348600 (lw_Z below #[Value.ref b] s) (F0 m 572 ls []) := by
  obtain ⟨hx, hb, hr, hml, hown, hts0, hX, hbl, hlocks, hgv⟩ := C0
  have hts : ∀ w ∈ wsL_law, w.before #[Value.ref b] s = true := fun w h => hts0 w (wsL_law_in w h)
  have hbA : ¬ (fun q : Nat => s.heap.size ≤ q) b := Nat.not_le.mpr hbl
  have hown : s.vm.findClass RL = some m.cls := hown
  obtain ⟨hI2, hI9, hI12, hI16, hI18, hI22, hI31, hI38, hI43, hI47, hI50, hI101, hI102, hI103, hI104, hI105, hI106, hI107, hI109, hI110, hI111, hI119, hs_jKept, hs_jBook, ht0, ht1, ht2, ht3, ht4, ht5, ht6, ht7, ht8, ht9, ht10, hr0, hr1, hr2, hr3, hr4, hr5, hr6, hr7⟩ := hAll
  have hL9 : (L : Int) ≤ 384 := by omega
  obtain ⟨i1, i2, i3, i4, i5, w6⟩ : (0 ≤ (σ 2 0).toInt ∧ (σ 2 0).toInt ≤ 4) ∧ (0 ≤ (σ 2 1).toInt ∧ (σ 2 1).toInt ≤ 3) ∧ (0 ≤ (σ 2 2).toInt) ∧ (0 ≤ (σ 2 3).toInt) ∧ ((σ 2 2).toInt + (σ 2 3).toInt ≤ 40) ∧ (∀ k : Nat, k < 40 → 0 ≤ (σ 6 k).toInt ∧ (σ 6 k).toInt ≤ 67) := id hI2
  obtain ⟨i7, w8, w9⟩ : (0 ≤ (σ 9 0).toInt ∧ (σ 9 0).toInt ≤ 80) ∧ (∀ k : Nat, k < 80 → 0 ≤ (σ 10 k).toInt ∧ (σ 10 k).toInt ≤ 255) ∧ (∀ k : Nat, k < 8 → 0 ≤ (σ 11 k).toInt ∧ (σ 11 k).toInt ≤ 3) := id hI9
  obtain ⟨i10, i11, i12, w13⟩ : (1 ≤ (σ 16 0).toInt ∧ (σ 16 0).toInt ≤ 8) ∧ (1 ≤ (σ 16 1).toInt ∧ (σ 16 1).toInt ≤ 12) ∧ (0 ≤ (σ 16 2).toInt ∧ (σ 16 2).toInt ≤ 999) ∧ (∀ k : Nat, k < 8 → 0 ≤ (σ 17 k).toInt ∧ (σ 17 k).toInt ≤ 3) := id hI16
  obtain ⟨i14, i15, w16⟩ : (0 ≤ (σ 38 0).toInt ∧ (σ 38 0).toInt ≤ 20) ∧ (0 ≤ (σ 38 1).toInt ∧ (σ 38 1).toInt ≤ 1000) ∧ (∀ k : Nat, k < 20 → 0 ≤ (σ 39 k).toInt ∧ (σ 39 k).toInt ≤ 6) := id hI38
  obtain ⟨i17, w18, w19⟩ : (0 ≤ (σ 47 0).toInt ∧ (σ 47 0).toInt ≤ 12) ∧ (∀ k : Nat, k < 12 → 0 ≤ (σ 48 k).toInt ∧ (σ 48 k).toInt ≤ 3) ∧ (∀ k : Nat, k < 12 → 0 ≤ (σ 49 k).toInt ∧ (σ 49 k).toInt ≤ 1) := id hI47
  have w20 : ∀ k : Nat, k < 6 → 0 ≤ (σ 52 k).toInt ∧ (σ 52 k).toInt ≤ 60 := hI50
  obtain ⟨i21, i22, i23, w24, w25, w26, w27⟩ : (0 ≤ (σ 55 5).toInt) ∧ ((σ 55 5).toInt ≤ (σ 55 4).toInt) ∧ ((σ 55 4).toInt ≤ 40) ∧ (∀ k : Nat, k < 68 → (-200) ≤ (σ 56 k).toInt ∧ (σ 56 k).toInt ≤ 500) ∧ (∀ k : Nat, k < 40 → 0 ≤ (σ 57 k).toInt ∧ (σ 57 k).toInt ≤ 67) ∧ (∀ k : Nat, k < 40 → (-200) ≤ (σ 58 k).toInt ∧ (σ 58 k).toInt ≤ 500) ∧ (∀ k : Nat, k < 40 → (-200) ≤ (σ 59 k).toInt ∧ (σ 59 k).toInt ≤ 500) := id hI101
  obtain ⟨i28, w29, w30⟩ : (0 ≤ (σ 55 6).toInt ∧ (σ 55 6).toInt ≤ 4) ∧ (∀ k : Nat, k < 4 → 0 ≤ (σ 60 k).toInt ∧ (σ 60 k).toInt ≤ 50) ∧ (∀ k : Nat, k < 4 → 0 ≤ (σ 61 k).toInt ∧ (σ 61 k).toInt ≤ 20) := id hI102
  obtain ⟨i31, i32, i33, w34, w35⟩ : (1 ≤ (σ 55 10).toInt ∧ (σ 55 10).toInt ≤ 8) ∧ (1 ≤ (σ 55 12).toInt ∧ (σ 55 12).toInt ≤ 12) ∧ (0 ≤ (σ 55 13).toInt ∧ (σ 55 13).toInt ≤ 999) ∧ (∀ k : Nat, k < 8 → 0 ≤ (σ 62 k).toInt ∧ (σ 62 k).toInt ≤ 3) ∧ (∀ k : Nat, k < 8 → 0 ≤ (σ 67 k).toInt ∧ (σ 67 k).toInt ≤ 3) := id hI104
  obtain ⟨i36, w37⟩ : (0 ≤ (σ 55 15).toInt ∧ (σ 55 15).toInt ≤ 80) ∧ (∀ k : Nat, k < 2 → (-1) ≤ (σ 65 k).toInt ∧ (σ 65 k).toInt ≤ 80) := id hI105
  obtain ⟨i38, w39, w40, w41⟩ : (0 ≤ (σ 55 32).toInt ∧ (σ 55 32).toInt ≤ 20) ∧ (∀ k : Nat, k < 20 → 0 ≤ (σ 70 k).toInt ∧ (σ 70 k).toInt ≤ 6) ∧ (∀ k : Nat, k < 20 → 0 ≤ (σ 71 k).toInt ∧ (σ 71 k).toInt ≤ 8) ∧ (∀ k : Nat, k < 160 → 0 ≤ (σ 72 k).toInt ∧ (σ 72 k).toInt ≤ 3) := id hI106
  obtain ⟨i42, i43, w44⟩ : (0 ≤ (σ 55 47).toInt ∧ (σ 55 47).toInt ≤ 12) ∧ ((σ 55 47).toInt ≤ (σ 55 12).toInt) ∧ (∀ k : Nat, k < 12 → 0 ≤ (σ 80 k).toInt ∧ (σ 80 k).toInt ≤ 3) := id hI107
  refine lv_aload_n hx hb dL_law_572 rfl (lv_at hl 2 rfl) ?_
  refine lv_aload_n hx hb dL_law_573 rfl (lv_at hl 3 rfl) ?_
  refine lv_iload_n hx hb dL_law_574 rfl (lv_at hl 0 rfl) ?_
  refine lv_iconst (v := 1) hx hb dL_law_575 (by decide) ?_
  have g45 := jrg (rfl : x0.toInt = x0.toInt)
  refine lv_iadd hx hb dL_law_576 ?_
  refine lv_topi (fun x46 ex46 => ?_)
  have tx46 : x46.toInt = x0.toInt + 1 := (jadd ex46 rfl jz_1 (by omega) (by omega)).trans (by omega)
  refine va_sld hx hb hX hbl hbA hS (jin tx46 (by omega) (by omega)) dL_law_577 ?_
  have g47 := jrg (rfl : (xs x46.toNatClampNeg).toInt = (xs x46.toNatClampNeg).toInt)
  refine lv_aload_n hx hb dL_law_578 rfl (lv_at hl 3 rfl) ?_
  refine lv_iload_n hx hb dL_law_579 rfl (lv_at hl 0 rfl) ?_
  refine lv_iconst (v := 2) hx hb dL_law_580 (by decide) ?_
  refine lv_iadd hx hb dL_law_581 ?_
  refine lv_topi (fun x48 ex48 => ?_)
  have tx48 : x48.toInt = x0.toInt + 2 := (jadd ex48 rfl jz_2 (by omega) (by omega)).trans (by omega)
  refine va_sld hx hb hX hbl hbA hS (jin tx48 (by omega) (by omega)) dL_law_582 ?_
  have g49 := jrg (rfl : (xs x48.toNatClampNeg).toInt = (xs x48.toNatClampNeg).toInt)
  refine jcallV (As := [.int (xs x46.toNatClampNeg), .int (xs x48.toNatClampNeg)]) (rest := []) ⟨hx, hb, hml, hown, hts⟩ hK hP hA hS hZ (c_X11_likely l D cI cL ad zz hJ σ τ (xs x46.toNatClampNeg) ((xs x46.toNatClampNeg).toInt) rfl (xs x48.toNatClampNeg) ((xs x48.toNatClampNeg).toInt) rfl hI2 hI16 hI18 hI22 hI31 hI38) cw_RL_65 (jc_0 cI cL ad σ τ) rfl ⟨Nat.le_of_ble_eq_true rfl, Nat.le_of_ble_eq_true rfl⟩ rfl rfl rfl hl.1 rfl (Nat.le_of_ble_eq_true rfl) dL_law_583 ⟨Nat.le_of_ble_eq_true rfl, Nat.le_of_ble_eq_true rfl⟩ (fun r51 σ50 τ50 H locs h50 hP hS => ?_)
  obtain ⟨rfl, f52, f53, I54, h50⟩ := h50
  refine lv_pop hx hb dL_law_586 rfl ?_
  refine lv_aload_n hx hb dL_law_587 rfl (lv_at hl 1 rfl) ?_
  refine lv_aload_n hx hb dL_law_588 rfl (lv_at hl 3 rfl) ?_
  refine lv_iload_n hx hb dL_law_589 rfl (lv_at hl 0 rfl) ?_
  refine lv_iconst (v := 1) hx hb dL_law_590 (by decide) ?_
  refine lv_iadd hx hb dL_law_591 ?_
  refine jtopr ex46.symm ?_
  refine va_sld hx hb hX hbl hbA hS (jin tx46 (by omega) (by omega)) dL_law_592 ?_
  refine lv_aload_n hx hb dL_law_593 rfl (lv_at hl 3 rfl) ?_
  refine lv_iload_n hx hb dL_law_594 rfl (lv_at hl 0 rfl) ?_
  refine lv_iconst (v := 2) hx hb dL_law_595 (by decide) ?_
  refine lv_iadd hx hb dL_law_596 ?_
  refine jtopr ex48.symm ?_
  refine va_sld hx hb hX hbl hbA hS (jin tx48 (by omega) (by omega)) dL_law_597 ?_
  have I56 : jI101 σ50 := jI101_fr (congrFun (f52 55 (by decide)) 4) (congrFun (f52 55 (by decide)) 5) (f52 56 (by decide)) (f52 57 (by decide)) (f52 58 (by decide)) (f52 59 (by decide)) hI101
  have I57 : jI102 σ50 := jI102_fr (congrFun (f52 55 (by decide)) 6) (f52 60 (by decide)) (f52 61 (by decide)) hI102
  have I58 : jI103 σ50 := jI103_fr (congrFun (f52 55 (by decide)) 9) hI103
  have I59 : jI104 σ50 := jI104_fr (congrFun (f52 55 (by decide)) 10) (congrFun (f52 55 (by decide)) 12) (congrFun (f52 55 (by decide)) 13) (f52 62 (by decide)) (f52 67 (by decide)) hI104
  have I60 : jI105 σ50 := jI105_fr (congrFun (f52 55 (by decide)) 15) (f52 65 (by decide)) hI105
  have I61 : jI106 σ50 := jI106_fr (congrFun (f52 55 (by decide)) 32) (f52 70 (by decide)) (f52 71 (by decide)) (f52 72 (by decide)) hI106
  have I62 : jI119 σ50 := jI119_fr (f52 68 (by decide)) hI119
  have p63 : jKept σ50 := jKept.fr (f52 75 (by decide)) (f52 76 (by decide)) (f52 77 (by decide)) hs_jKept
  refine jcallV (As := [.int (xs x46.toNatClampNeg), .int (xs x48.toNatClampNeg)]) (rest := []) ⟨hx, hb, hml, hown, hts⟩ hK hP hA hS hZ (c_X12_likely l D cI cL ad zz hJ σ50 τ (xs x46.toNatClampNeg) ((xs x46.toNatClampNeg).toInt) rfl (xs x48.toNatClampNeg) ((xs x48.toNatClampNeg).toInt) rfl I56 I57 I58 I59 I60 I61 I62 p63) cw_RL_68 (jc_55 cI cL ad σ50 τ) rfl ⟨Nat.le_of_ble_eq_true rfl, Nat.le_of_ble_eq_true rfl⟩ rfl rfl rfl hl.1 rfl (Nat.le_of_ble_eq_true rfl) dL_law_598 ⟨Nat.le_of_ble_eq_true rfl, Nat.le_of_ble_eq_true rfl⟩ (fun r65 σ64 τ64 H locs h64 hP hS => ?_)
  obtain ⟨rfl, f66, f67, I68, p69, h64⟩ := h64
  refine lv_pop hx hb dL_law_601 rfl ?_
  refine lv_goto (tgt := 1357) hx hb dL_law_602 (by decide) ?_
  obtain ⟨x71, ex71⟩ : ∃ y : Int32, y = x0 + 6 := ⟨_, rfl⟩
  have tx71 : x71.toInt = x0.toInt + 6 := (jadd ex71 rfl jz_6 (by omega) (by omega)).trans (by omega)
  refine lv_iinc (v := x71) (lv' := [(3, .int x71), (2, .ref (ad 55)), (1, .ref (ad 0)), (0, .ref b)]) hx hb dL_law_1357 hl (k := 0) rfl (by rw [ex71]; rfl) (by decide) rfl (fun ls hl => ?_)
  refine lv_goto (tgt := 18) hx hb dL_law_1360 (by decide) ?_
  have I72 : jI2 σ64 := jI2_fr ((congrFun (f66 2 (by decide)) 0).trans (congrFun (f52 2 (by decide)) 0)) ((congrFun (f66 2 (by decide)) 1).trans (congrFun (f52 2 (by decide)) 1)) ((congrFun (f66 2 (by decide)) 2).trans (congrFun (f52 2 (by decide)) 2)) ((congrFun (f66 2 (by decide)) 3).trans (congrFun (f52 2 (by decide)) 3)) ((f66 6 (by decide)).trans (f52 6 (by decide))) hI2
  have I73 : jI9 σ64 := jI9_fr ((congrFun (f66 9 (by decide)) 0).trans (congrFun (f52 9 (by decide)) 0)) ((f66 10 (by decide)).trans (f52 10 (by decide))) ((f66 11 (by decide)).trans (f52 11 (by decide))) hI9
  have I74 : jI12 σ64 := jI12_fr ((congrFun (f66 12 (by decide)) 0).trans (congrFun (f52 12 (by decide)) 0)) ((f66 13 (by decide)).trans (f52 13 (by decide))) hI12
  have I75 : jI16 σ64 := jI16_fr ((congrFun (f66 16 (by decide)) 0).trans (congrFun (f52 16 (by decide)) 0)) ((congrFun (f66 16 (by decide)) 1).trans (congrFun (f52 16 (by decide)) 1)) ((congrFun (f66 16 (by decide)) 2).trans (congrFun (f52 16 (by decide)) 2)) ((f66 17 (by decide)).trans (f52 17 (by decide))) hI16
  have I76 : jI18 σ64 := jI18_fr ((congrFun (f66 18 (by decide)) 0).trans (congrFun (f52 18 (by decide)) 0)) ((f66 19 (by decide)).trans (f52 19 (by decide))) hI18
  have I77 : jI22 σ64 := jI22_fr ((congrFun (f66 22 (by decide)) 0).trans (congrFun (f52 22 (by decide)) 0)) ((f66 23 (by decide)).trans (f52 23 (by decide))) hI22
  have I78 : jI31 σ64 := jI31_fr (congrFun (f66 31 (by decide)) 8) (f66 33 (by decide)) (f66 36 (by decide)) I54
  have I79 : jI38 σ64 := jI38_fr ((congrFun (f66 38 (by decide)) 0).trans (congrFun (f52 38 (by decide)) 0)) ((congrFun (f66 38 (by decide)) 1).trans (congrFun (f52 38 (by decide)) 1)) ((f66 39 (by decide)).trans (f52 39 (by decide))) hI38
  have I80 : jI43 σ64 := jI43_fr ((congrFun (f66 43 (by decide)) 8).trans (congrFun (f52 43 (by decide)) 8)) hI43
  have I81 : jI47 σ64 := jI47_fr ((congrFun (f66 47 (by decide)) 0).trans (congrFun (f52 47 (by decide)) 0)) ((f66 48 (by decide)).trans (f52 48 (by decide))) ((f66 49 (by decide)).trans (f52 49 (by decide))) hI47
  have I82 : jI50 σ64 := jI50_fr ((f66 52 (by decide)).trans (f52 52 (by decide))) hI50
  have I83 : jI101 σ64 := jI101_fr (f67 4 (by decide)) (f67 5 (by decide)) (f66 56 (by decide)) (f66 57 (by decide)) (f66 58 (by decide)) (f66 59 (by decide)) I56
  have I84 : jI102 σ64 := jI102_fr (f67 6 (by decide)) (f66 60 (by decide)) (f66 61 (by decide)) I57
  have I85 : jI103 σ64 := jI103_fr (f67 9 (by decide)) I58
  have I86 : jI104 σ64 := jI104_fr (f67 10 (by decide)) (f67 12 (by decide)) (f67 13 (by decide)) (f66 62 (by decide)) (f66 67 (by decide)) I59
  have I87 : jI105 σ64 := jI105_fr (f67 15 (by decide)) (f66 65 (by decide)) I60
  have I88 : jI106 σ64 := jI106_fr (f67 32 (by decide)) (f66 70 (by decide)) (f66 71 (by decide)) (f66 72 (by decide)) I61
  have I89 : jI107 σ64 := jI107_fr ((f67 12 (by decide)).trans (congrFun (f52 55 (by decide)) 12)) ((f67 47 (by decide)).trans (congrFun (f52 55 (by decide)) 47)) ((f66 80 (by decide)).trans (f52 80 (by decide))) hI107
  have I90 : jI109 σ64 := jI109_fr ((f67 50 (by decide)).trans (congrFun (f52 55 (by decide)) 50)) hI109
  have I91 : jI110 σ64 := jI110_fr ((f66 86 (by decide)).trans (f52 86 (by decide))) ((f66 87 (by decide)).trans (f52 87 (by decide))) hI110
  have I92 : jI111 σ64 := jI111_fr ((f66 79 (by decide)).trans (f52 79 (by decide))) hI111
  have p93 : jBook σ64 := jBook.fr ((f67 47 (by decide)).trans (congrFun (f52 55 (by decide)) 47)) ((f67 10 (by decide)).trans (congrFun (f52 55 (by decide)) 10)) ((f66 81 (by decide)).trans (f52 81 (by decide))) hs_jBook
  have z94 : (σ64 2 0).toInt = (σ 2 0).toInt := (congrArg Int32.toInt (show σ64 2 0 = (σ 2 0) from ((congrFun (f66 2 (by decide)) 0).trans (congrFun (f52 2 (by decide)) 0))))
  have z95 : (σ64 55 6).toInt = (σ 55 6).toInt := (congrArg Int32.toInt (show σ64 55 6 = (σ 55 6) from ((f67 6 (by decide)).trans (congrFun (f52 55 (by decide)) 6))))
  have z96 : (σ64 2 2).toInt = (σ 2 2).toInt := (congrArg Int32.toInt (show σ64 2 2 = (σ 2 2) from ((congrFun (f66 2 (by decide)) 2).trans (congrFun (f52 2 (by decide)) 2))))
  have z97 : (σ64 55 5).toInt = (σ 55 5).toInt := (congrArg Int32.toInt (show σ64 55 5 = (σ 55 5) from ((f67 5 (by decide)).trans (congrFun (f52 55 (by decide)) 5))))
  have z98 : (σ64 2 3).toInt = (σ 2 3).toInt := (congrArg Int32.toInt (show σ64 2 3 = (σ 2 3) from ((congrFun (f66 2 (by decide)) 3).trans (congrFun (f52 2 (by decide)) 3))))
  have z99 : (σ64 55 4).toInt = (σ 55 4).toInt := (congrArg Int32.toInt (show σ64 55 4 = (σ 55 4) from ((f67 4 (by decide)).trans (congrFun (f52 55 (by decide)) 4))))
  have z100 : (σ64 9 0).toInt = (σ 9 0).toInt := (congrArg Int32.toInt (show σ64 9 0 = (σ 9 0) from ((congrFun (f66 9 (by decide)) 0).trans (congrFun (f52 9 (by decide)) 0))))
  have z101 : (σ64 55 15).toInt = (σ 55 15).toInt := (congrArg Int32.toInt (show σ64 55 15 = (σ 55 15) from ((f67 15 (by decide)).trans (congrFun (f52 55 (by decide)) 15))))
  have z102 : (σ64 16 0).toInt = (σ 16 0).toInt := (congrArg Int32.toInt (show σ64 16 0 = (σ 16 0) from ((congrFun (f66 16 (by decide)) 0).trans (congrFun (f52 16 (by decide)) 0))))
  have z103 : (σ64 55 10).toInt = (σ 55 10).toInt := (congrArg Int32.toInt (show σ64 55 10 = (σ 55 10) from ((f67 10 (by decide)).trans (congrFun (f52 55 (by decide)) 10))))
  have z104 : (σ64 16 1).toInt = (σ 16 1).toInt := (congrArg Int32.toInt (show σ64 16 1 = (σ 16 1) from ((congrFun (f66 16 (by decide)) 1).trans (congrFun (f52 16 (by decide)) 1))))
  have z105 : (σ64 55 12).toInt = (σ 55 12).toInt := (congrArg Int32.toInt (show σ64 55 12 = (σ 55 12) from ((f67 12 (by decide)).trans (congrFun (f52 55 (by decide)) 12))))
  have z106 : (σ64 16 2).toInt = (σ 16 2).toInt := (congrArg Int32.toInt (show σ64 16 2 = (σ 16 2) from ((congrFun (f66 16 (by decide)) 2).trans (congrFun (f52 16 (by decide)) 2))))
  have z107 : (σ64 55 13).toInt = (σ 55 13).toInt := (congrArg Int32.toInt (show σ64 55 13 = (σ 55 13) from ((f67 13 (by decide)).trans (congrFun (f52 55 (by decide)) 13))))
  have z108 : (σ64 38 0).toInt = (σ 38 0).toInt := (congrArg Int32.toInt (show σ64 38 0 = (σ 38 0) from ((congrFun (f66 38 (by decide)) 0).trans (congrFun (f52 38 (by decide)) 0))))
  have z109 : (σ64 55 32).toInt = (σ 55 32).toInt := (congrArg Int32.toInt (show σ64 55 32 = (σ 55 32) from ((f67 32 (by decide)).trans (congrFun (f52 55 (by decide)) 32))))
  have z110 : (σ64 47 0).toInt = (σ 47 0).toInt := (congrArg Int32.toInt (show σ64 47 0 = (σ 47 0) from ((congrFun (f66 47 (by decide)) 0).trans (congrFun (f52 47 (by decide)) 0))))
  have z111 : (σ64 55 47).toInt = (σ 55 47).toInt := (congrArg Int32.toInt (show σ64 55 47 = (σ 55 47) from ((f67 47 (by decide)).trans (congrFun (f52 55 (by decide)) 47))))
  have z112 : (σ64 55 30).toInt = (σ 55 30).toInt := (congrArg Int32.toInt (show σ64 55 30 = (σ 55 30) from ((f67 30 (by decide)).trans (congrFun (f52 55 (by decide)) 30))))
  have z113 : (σ64 55 31).toInt = (σ 55 31).toInt := (congrArg Int32.toInt (show σ64 55 31 = (σ 55 31) from ((f67 31 (by decide)).trans (congrFun (f52 55 (by decide)) 31))))
  exact ih x71 σ64 τ _ _ ls (by have h9 := tx71; omega) ⟨I72, I73, I74, I75, I76, I77, I78, I79, I80, I81, I82, I83, I84, I85, I86, I87, I88, I89, I90, I91, I92, I68, p69, p93, (by omega), (by omega), (by omega), (by omega), (by omega), (by omega), (by omega), (by omega), (by omega), (by omega), (by omega), (show jNumP (σ64 3) (σ64 56) (σ64 6) (σ64 57) (σ64 7) (σ64 58) (σ64 8) (σ64 59) (σ64 55 6).toInt (σ64 55 4).toInt by rw [show σ64 3 = σ 3 from ((f66 3 (by decide)).trans (f52 3 (by decide))), show σ64 56 = σ 56 from ((f66 56 (by decide)).trans (f52 56 (by decide))), show σ64 6 = σ 6 from ((f66 6 (by decide)).trans (f52 6 (by decide))), show σ64 57 = σ 57 from ((f66 57 (by decide)).trans (f52 57 (by decide))), show σ64 7 = σ 7 from ((f66 7 (by decide)).trans (f52 7 (by decide))), show σ64 58 = σ 58 from ((f66 58 (by decide)).trans (f52 58 (by decide))), show σ64 8 = σ 8 from ((f66 8 (by decide)).trans (f52 8 (by decide))), show σ64 59 = σ 59 from ((f66 59 (by decide)).trans (f52 59 (by decide))), show (σ64 55 6).toInt = (σ 55 6).toInt from by omega, show (σ64 55 4).toInt = (σ 55 4).toInt from by omega]; exact hr0), (show jOvP (σ64 56) (σ64 57) (σ64 58) (σ64 59) (σ64 55 4).toInt by rw [show σ64 56 = σ 56 from ((f66 56 (by decide)).trans (f52 56 (by decide))), show σ64 57 = σ 57 from ((f66 57 (by decide)).trans (f52 57 (by decide))), show σ64 58 = σ 58 from ((f66 58 (by decide)).trans (f52 58 (by decide))), show σ64 59 = σ 59 from ((f66 59 (by decide)).trans (f52 59 (by decide))), show (σ64 55 4).toInt = (σ 55 4).toInt from by omega]; exact hr1), (show jTp (σ64 10) (σ64 63) (σ64 55 15).toInt by rw [show σ64 10 = σ 10 from ((f66 10 (by decide)).trans (f52 10 (by decide))), show σ64 63 = σ 63 from ((f66 63 (by decide)).trans (f52 63 (by decide)))]; exact hr2.le (by omega)), (show jSo (σ64 17) (σ64 62) (σ64 16 0).toInt by rw [show σ64 17 = σ 17 from ((f66 17 (by decide)).trans (f52 17 (by decide))), show σ64 62 = σ 62 from ((f66 62 (by decide)).trans (f52 62 (by decide))), show (σ64 16 0).toInt = (σ 16 0).toInt from by omega]; exact hr3), (show jShP (σ64 51) (σ64 52) (σ64 53) (σ64 86) (σ64 87) (σ64 55 32).toInt by rw [show σ64 51 = σ 51 from ((f66 51 (by decide)).trans (f52 51 (by decide))), show σ64 52 = σ 52 from ((f66 52 (by decide)).trans (f52 52 (by decide))), show σ64 53 = σ 53 from ((f66 53 (by decide)).trans (f52 53 (by decide))), show σ64 86 = σ 86 from ((f66 86 (by decide)).trans (f52 86 (by decide))), show σ64 87 = σ 87 from ((f66 87 (by decide)).trans (f52 87 (by decide)))]; exact (hr4.up (by omega) (by omega))), (show jEl (σ64 51) (σ64 52) (τ 54) (τ 88) by rw [show σ64 51 = σ 51 from ((f66 51 (by decide)).trans (f52 51 (by decide))), show σ64 52 = σ 52 from ((f66 52 (by decide)).trans (f52 52 (by decide)))]; exact hr5), (show jByP (σ64 51) (σ64 52) (τ 54) by rw [show σ64 51 = σ 51 from ((f66 51 (by decide)).trans (f52 51 (by decide))), show σ64 52 = σ 52 from ((f66 52 (by decide)).trans (f52 52 (by decide)))]; exact hr6), (show jBk (σ64 48) (σ64 80) (σ64 49) (σ64 81) (σ64 55 47).toInt by rw [show σ64 48 = σ 48 from ((f66 48 (by decide)).trans (f52 48 (by decide))), show σ64 49 = σ 49 from ((f66 49 (by decide)).trans (f52 49 (by decide))), show σ64 80 = σ 80 from ((f66 80 (by decide)).trans (f52 80 (by decide))), show σ64 81 = σ 81 from ((f66 81 (by decide)).trans (f52 81 (by decide))), show (σ64 55 47).toInt = (σ 55 47).toInt from by omega]; exact hr7)⟩ hP hS (lv_sub hl [0, 1, 2, 3] rfl)
set_option maxHeartbeats 4000000 in
set_option maxRecDepth 100000 in
theorem law_case_13 {p : Program} {e : Env} {s : State} {m : MethodId} {below : List Frame} {meth : Method} {c : Code} (l : Launch) {b L : Nat} {xs : Nat → Int32} {D : va_G} {cI cL : ClassId} {ad zz : Nat → Nat} (C0 : lw_At p s m meth c b L xs) (hJ : jD ad) (hA : ∀ q, jA ad q → s.heap.size ≤ q) (hK : jK D cI cL s) (hZ : jZ zz (fun q : Nat => s.heap.size ≤ q) s s.heap) {x0 : Int32} (hx0 : 0 ≤ x0.toInt) (hxL : x0.toInt + 6 ≤ (L : Int)) (hL : L ≤ 384) {σ : Nat → Nat → Int32} {τ : Nat → Nat → Int64} {H : Heap} {locs : List Loc} (hS : va_S (fun q : Nat => s.heap.size ≤ q) s.heap H locs) {ls : Array Slot} (hAll : jAll σ τ) (hP : jH D cI cL ad σ τ H) (hl : lv_has ls 4 [(3, .int x0), (2, .ref (ad 55)), (1, .ref (ad 0)), (0, .ref b)]) (ih : ∀ (x1 : Int32) (σ : Nat → Nat → Int32) (τ : Nat → Nat → Int64) (H : Heap) (locs : List Loc) (ls : Array Slot), x1.toInt = x0.toInt + 6 → jAll σ τ → jH D cI cL ad σ τ H → va_S (fun q : Nat => s.heap.size ≤ q) s.heap H locs → lv_has ls 4 [(3, .int x1), (2, .ref (ad 55)), (1, .ref (ad 0)), (0, .ref b)] → W p l e room_1 s m #[Value.ref b] below meth c H locs 90 348600 (lw_Z below #[Value.ref b] s) (F0 m 18 ls [])) : W p l e room_1 s m #[Value.ref b] below meth c H locs 90 348600 (lw_Z below #[Value.ref b] s) (F0 m 605 ls []) := by
  obtain ⟨hx, hb, hr, hml, hown, hts0, hX, hbl, hlocks, hgv⟩ := C0
  have hts : ∀ w ∈ wsL_law, w.before #[Value.ref b] s = true := fun w h => hts0 w (wsL_law_in w h)
  have hbA : ¬ (fun q : Nat => s.heap.size ≤ q) b := Nat.not_le.mpr hbl
  have hown : s.vm.findClass RL = some m.cls := hown
  obtain ⟨hI2, hI9, hI12, hI16, hI18, hI22, hI31, hI38, hI43, hI47, hI50, hI101, hI102, hI103, hI104, hI105, hI106, hI107, hI109, hI110, hI111, hI119, hs_jKept, hs_jBook, ht0, ht1, ht2, ht3, ht4, ht5, ht6, ht7, ht8, ht9, ht10, hr0, hr1, hr2, hr3, hr4, hr5, hr6, hr7⟩ := hAll
  have hL9 : (L : Int) ≤ 384 := by omega
  obtain ⟨i1, i2, i3, i4, i5, w6⟩ : (0 ≤ (σ 2 0).toInt ∧ (σ 2 0).toInt ≤ 4) ∧ (0 ≤ (σ 2 1).toInt ∧ (σ 2 1).toInt ≤ 3) ∧ (0 ≤ (σ 2 2).toInt) ∧ (0 ≤ (σ 2 3).toInt) ∧ ((σ 2 2).toInt + (σ 2 3).toInt ≤ 40) ∧ (∀ k : Nat, k < 40 → 0 ≤ (σ 6 k).toInt ∧ (σ 6 k).toInt ≤ 67) := id hI2
  obtain ⟨i7, w8, w9⟩ : (0 ≤ (σ 9 0).toInt ∧ (σ 9 0).toInt ≤ 80) ∧ (∀ k : Nat, k < 80 → 0 ≤ (σ 10 k).toInt ∧ (σ 10 k).toInt ≤ 255) ∧ (∀ k : Nat, k < 8 → 0 ≤ (σ 11 k).toInt ∧ (σ 11 k).toInt ≤ 3) := id hI9
  obtain ⟨i10, i11, i12, w13⟩ : (1 ≤ (σ 16 0).toInt ∧ (σ 16 0).toInt ≤ 8) ∧ (1 ≤ (σ 16 1).toInt ∧ (σ 16 1).toInt ≤ 12) ∧ (0 ≤ (σ 16 2).toInt ∧ (σ 16 2).toInt ≤ 999) ∧ (∀ k : Nat, k < 8 → 0 ≤ (σ 17 k).toInt ∧ (σ 17 k).toInt ≤ 3) := id hI16
  obtain ⟨i14, i15, w16⟩ : (0 ≤ (σ 38 0).toInt ∧ (σ 38 0).toInt ≤ 20) ∧ (0 ≤ (σ 38 1).toInt ∧ (σ 38 1).toInt ≤ 1000) ∧ (∀ k : Nat, k < 20 → 0 ≤ (σ 39 k).toInt ∧ (σ 39 k).toInt ≤ 6) := id hI38
  obtain ⟨i17, w18, w19⟩ : (0 ≤ (σ 47 0).toInt ∧ (σ 47 0).toInt ≤ 12) ∧ (∀ k : Nat, k < 12 → 0 ≤ (σ 48 k).toInt ∧ (σ 48 k).toInt ≤ 3) ∧ (∀ k : Nat, k < 12 → 0 ≤ (σ 49 k).toInt ∧ (σ 49 k).toInt ≤ 1) := id hI47
  have w20 : ∀ k : Nat, k < 6 → 0 ≤ (σ 52 k).toInt ∧ (σ 52 k).toInt ≤ 60 := hI50
  obtain ⟨i21, i22, i23, w24, w25, w26, w27⟩ : (0 ≤ (σ 55 5).toInt) ∧ ((σ 55 5).toInt ≤ (σ 55 4).toInt) ∧ ((σ 55 4).toInt ≤ 40) ∧ (∀ k : Nat, k < 68 → (-200) ≤ (σ 56 k).toInt ∧ (σ 56 k).toInt ≤ 500) ∧ (∀ k : Nat, k < 40 → 0 ≤ (σ 57 k).toInt ∧ (σ 57 k).toInt ≤ 67) ∧ (∀ k : Nat, k < 40 → (-200) ≤ (σ 58 k).toInt ∧ (σ 58 k).toInt ≤ 500) ∧ (∀ k : Nat, k < 40 → (-200) ≤ (σ 59 k).toInt ∧ (σ 59 k).toInt ≤ 500) := id hI101
  obtain ⟨i28, w29, w30⟩ : (0 ≤ (σ 55 6).toInt ∧ (σ 55 6).toInt ≤ 4) ∧ (∀ k : Nat, k < 4 → 0 ≤ (σ 60 k).toInt ∧ (σ 60 k).toInt ≤ 50) ∧ (∀ k : Nat, k < 4 → 0 ≤ (σ 61 k).toInt ∧ (σ 61 k).toInt ≤ 20) := id hI102
  obtain ⟨i31, i32, i33, w34, w35⟩ : (1 ≤ (σ 55 10).toInt ∧ (σ 55 10).toInt ≤ 8) ∧ (1 ≤ (σ 55 12).toInt ∧ (σ 55 12).toInt ≤ 12) ∧ (0 ≤ (σ 55 13).toInt ∧ (σ 55 13).toInt ≤ 999) ∧ (∀ k : Nat, k < 8 → 0 ≤ (σ 62 k).toInt ∧ (σ 62 k).toInt ≤ 3) ∧ (∀ k : Nat, k < 8 → 0 ≤ (σ 67 k).toInt ∧ (σ 67 k).toInt ≤ 3) := id hI104
  obtain ⟨i36, w37⟩ : (0 ≤ (σ 55 15).toInt ∧ (σ 55 15).toInt ≤ 80) ∧ (∀ k : Nat, k < 2 → (-1) ≤ (σ 65 k).toInt ∧ (σ 65 k).toInt ≤ 80) := id hI105
  obtain ⟨i38, w39, w40, w41⟩ : (0 ≤ (σ 55 32).toInt ∧ (σ 55 32).toInt ≤ 20) ∧ (∀ k : Nat, k < 20 → 0 ≤ (σ 70 k).toInt ∧ (σ 70 k).toInt ≤ 6) ∧ (∀ k : Nat, k < 20 → 0 ≤ (σ 71 k).toInt ∧ (σ 71 k).toInt ≤ 8) ∧ (∀ k : Nat, k < 160 → 0 ≤ (σ 72 k).toInt ∧ (σ 72 k).toInt ≤ 3) := id hI106
  obtain ⟨i42, i43, w44⟩ : (0 ≤ (σ 55 47).toInt ∧ (σ 55 47).toInt ≤ 12) ∧ ((σ 55 47).toInt ≤ (σ 55 12).toInt) ∧ (∀ k : Nat, k < 12 → 0 ≤ (σ 80 k).toInt ∧ (σ 80 k).toInt ≤ 3) := id hI107
  refine lv_aload_n hx hb dL_law_605 rfl (lv_at hl 2 rfl) ?_
  refine lv_aload_n hx hb dL_law_606 rfl (lv_at hl 3 rfl) ?_
  refine lv_iload_n hx hb dL_law_607 rfl (lv_at hl 0 rfl) ?_
  refine lv_iconst (v := 1) hx hb dL_law_608 (by decide) ?_
  have g45 := jrg (rfl : x0.toInt = x0.toInt)
  refine lv_iadd hx hb dL_law_609 ?_
  refine lv_topi (fun x46 ex46 => ?_)
  have tx46 : x46.toInt = x0.toInt + 1 := (jadd ex46 rfl jz_1 (by omega) (by omega)).trans (by omega)
  refine va_sld hx hb hX hbl hbA hS (jin tx46 (by omega) (by omega)) dL_law_610 ?_
  have g47 := jrg (rfl : (xs x46.toNatClampNeg).toInt = (xs x46.toNatClampNeg).toInt)
  refine jcallV (As := [.int (xs x46.toNatClampNeg)]) (rest := []) ⟨hx, hb, hml, hown, hts⟩ hK hP hA hS hZ (c_X11_best l D cI cL ad zz hJ σ τ (xs x46.toNatClampNeg) ((xs x46.toNatClampNeg).toInt) rfl hI2 hI16 hI22 hI31 hI47) cw_RL_69 (jc_0 cI cL ad σ τ) rfl ⟨Nat.le_of_ble_eq_true rfl, Nat.le_of_ble_eq_true rfl⟩ rfl rfl rfl hl.1 rfl (Nat.le_of_ble_eq_true rfl) dL_law_611 ⟨Nat.le_of_ble_eq_true rfl, Nat.le_of_ble_eq_true rfl⟩ (fun r49 σ48 τ48 H locs h48 hP hS => ?_)
  obtain ⟨rfl, f50, f51, I52, h48⟩ := h48
  refine lv_pop hx hb dL_law_614 rfl ?_
  refine lv_aload_n hx hb dL_law_615 rfl (lv_at hl 1 rfl) ?_
  refine lv_aload_n hx hb dL_law_616 rfl (lv_at hl 3 rfl) ?_
  refine lv_iload_n hx hb dL_law_617 rfl (lv_at hl 0 rfl) ?_
  refine lv_iconst (v := 1) hx hb dL_law_618 (by decide) ?_
  refine lv_iadd hx hb dL_law_619 ?_
  refine jtopr ex46.symm ?_
  refine va_sld hx hb hX hbl hbA hS (jin tx46 (by omega) (by omega)) dL_law_620 ?_
  have I54 : jI101 σ48 := jI101_fr (congrFun (f50 55 (by decide)) 4) (congrFun (f50 55 (by decide)) 5) (f50 56 (by decide)) (f50 57 (by decide)) (f50 58 (by decide)) (f50 59 (by decide)) hI101
  have I55 : jI102 σ48 := jI102_fr (congrFun (f50 55 (by decide)) 6) (f50 60 (by decide)) (f50 61 (by decide)) hI102
  have I56 : jI103 σ48 := jI103_fr (congrFun (f50 55 (by decide)) 9) hI103
  have I57 : jI104 σ48 := jI104_fr (congrFun (f50 55 (by decide)) 10) (congrFun (f50 55 (by decide)) 12) (congrFun (f50 55 (by decide)) 13) (f50 62 (by decide)) (f50 67 (by decide)) hI104
  have I58 : jI105 σ48 := jI105_fr (congrFun (f50 55 (by decide)) 15) (f50 65 (by decide)) hI105
  have I59 : jI106 σ48 := jI106_fr (congrFun (f50 55 (by decide)) 32) (f50 70 (by decide)) (f50 71 (by decide)) (f50 72 (by decide)) hI106
  have I60 : jI107 σ48 := jI107_fr (congrFun (f50 55 (by decide)) 12) (congrFun (f50 55 (by decide)) 47) (f50 80 (by decide)) hI107
  have I61 : jI119 σ48 := jI119_fr (f50 68 (by decide)) hI119
  have p62 : jKept σ48 := jKept.fr (f50 75 (by decide)) (f50 76 (by decide)) (f50 77 (by decide)) hs_jKept
  have p63 : jBook σ48 := jBook.fr (congrFun (f50 55 (by decide)) 47) (congrFun (f50 55 (by decide)) 10) (f50 81 (by decide)) hs_jBook
  refine jcallV (As := [.int (xs x46.toNatClampNeg)]) (rest := []) ⟨hx, hb, hml, hown, hts⟩ hK hP hA hS hZ (c_X12_best l D cI cL ad zz hJ σ48 τ (xs x46.toNatClampNeg) ((xs x46.toNatClampNeg).toInt) rfl I54 I55 I56 I57 I58 I59 I60 I61 p62 p63) cw_RL_72 (jc_55 cI cL ad σ48 τ) rfl ⟨Nat.le_of_ble_eq_true rfl, Nat.le_of_ble_eq_true rfl⟩ rfl rfl rfl hl.1 rfl (Nat.le_of_ble_eq_true rfl) dL_law_621 ⟨Nat.le_of_ble_eq_true rfl, Nat.le_of_ble_eq_true rfl⟩ (fun r65 σ64 τ64 H locs h64 hP hS => ?_)
  obtain ⟨rfl, f66, f67, I68, p69, p70, h64⟩ := h64
  refine lv_pop hx hb dL_law_624 rfl ?_
  refine lv_goto (tgt := 1357) hx hb dL_law_625 (by decide) ?_
  obtain ⟨x72, ex72⟩ : ∃ y : Int32, y = x0 + 6 := ⟨_, rfl⟩
  have tx72 : x72.toInt = x0.toInt + 6 := (jadd ex72 rfl jz_6 (by omega) (by omega)).trans (by omega)
  refine lv_iinc (v := x72) (lv' := [(3, .int x72), (2, .ref (ad 55)), (1, .ref (ad 0)), (0, .ref b)]) hx hb dL_law_1357 hl (k := 0) rfl (by rw [ex72]; rfl) (by decide) rfl (fun ls hl => ?_)
  refine lv_goto (tgt := 18) hx hb dL_law_1360 (by decide) ?_
  have I73 : jI2 σ64 := jI2_fr ((congrFun (f66 2 (by decide)) 0).trans (congrFun (f50 2 (by decide)) 0)) ((congrFun (f66 2 (by decide)) 1).trans (congrFun (f50 2 (by decide)) 1)) ((congrFun (f66 2 (by decide)) 2).trans (congrFun (f50 2 (by decide)) 2)) ((congrFun (f66 2 (by decide)) 3).trans (congrFun (f50 2 (by decide)) 3)) ((f66 6 (by decide)).trans (f50 6 (by decide))) hI2
  have I74 : jI9 σ64 := jI9_fr ((congrFun (f66 9 (by decide)) 0).trans (congrFun (f50 9 (by decide)) 0)) ((f66 10 (by decide)).trans (f50 10 (by decide))) ((f66 11 (by decide)).trans (f50 11 (by decide))) hI9
  have I75 : jI12 σ64 := jI12_fr ((congrFun (f66 12 (by decide)) 0).trans (congrFun (f50 12 (by decide)) 0)) ((f66 13 (by decide)).trans (f50 13 (by decide))) hI12
  have I76 : jI16 σ64 := jI16_fr ((congrFun (f66 16 (by decide)) 0).trans (congrFun (f50 16 (by decide)) 0)) ((congrFun (f66 16 (by decide)) 1).trans (congrFun (f50 16 (by decide)) 1)) ((congrFun (f66 16 (by decide)) 2).trans (congrFun (f50 16 (by decide)) 2)) ((f66 17 (by decide)).trans (f50 17 (by decide))) hI16
  have I77 : jI18 σ64 := jI18_fr ((congrFun (f66 18 (by decide)) 0).trans (congrFun (f50 18 (by decide)) 0)) ((f66 19 (by decide)).trans (f50 19 (by decide))) hI18
  have I78 : jI22 σ64 := jI22_fr ((congrFun (f66 22 (by decide)) 0).trans (congrFun (f50 22 (by decide)) 0)) ((f66 23 (by decide)).trans (f50 23 (by decide))) hI22
  have I79 : jI31 σ64 := jI31_fr (congrFun (f66 31 (by decide)) 8) (f66 33 (by decide)) (f66 36 (by decide)) I52
  have I80 : jI38 σ64 := jI38_fr ((congrFun (f66 38 (by decide)) 0).trans (congrFun (f50 38 (by decide)) 0)) ((congrFun (f66 38 (by decide)) 1).trans (congrFun (f50 38 (by decide)) 1)) ((f66 39 (by decide)).trans (f50 39 (by decide))) hI38
  have I81 : jI43 σ64 := jI43_fr ((congrFun (f66 43 (by decide)) 8).trans (congrFun (f50 43 (by decide)) 8)) hI43
  have I82 : jI47 σ64 := jI47_fr ((congrFun (f66 47 (by decide)) 0).trans (congrFun (f50 47 (by decide)) 0)) ((f66 48 (by decide)).trans (f50 48 (by decide))) ((f66 49 (by decide)).trans (f50 49 (by decide))) hI47
  have I83 : jI50 σ64 := jI50_fr ((f66 52 (by decide)).trans (f50 52 (by decide))) hI50
  have I84 : jI101 σ64 := jI101_fr (f67 4 (by decide)) (f67 5 (by decide)) (f66 56 (by decide)) (f66 57 (by decide)) (f66 58 (by decide)) (f66 59 (by decide)) I54
  have I85 : jI102 σ64 := jI102_fr (f67 6 (by decide)) (f66 60 (by decide)) (f66 61 (by decide)) I55
  have I86 : jI103 σ64 := jI103_fr (f67 9 (by decide)) I56
  have I87 : jI104 σ64 := jI104_fr (f67 10 (by decide)) (f67 12 (by decide)) (f67 13 (by decide)) (f66 62 (by decide)) (f66 67 (by decide)) I57
  have I88 : jI105 σ64 := jI105_fr (f67 15 (by decide)) (f66 65 (by decide)) I58
  have I89 : jI106 σ64 := jI106_fr (f67 32 (by decide)) (f66 70 (by decide)) (f66 71 (by decide)) (f66 72 (by decide)) I59
  have I90 : jI107 σ64 := jI107_fr (f67 12 (by decide)) (f67 47 (by decide)) (f66 80 (by decide)) I60
  have I91 : jI109 σ64 := jI109_fr ((f67 50 (by decide)).trans (congrFun (f50 55 (by decide)) 50)) hI109
  have I92 : jI110 σ64 := jI110_fr ((f66 86 (by decide)).trans (f50 86 (by decide))) ((f66 87 (by decide)).trans (f50 87 (by decide))) hI110
  have I93 : jI111 σ64 := jI111_fr ((f66 79 (by decide)).trans (f50 79 (by decide))) hI111
  have z94 : (σ64 2 0).toInt = (σ 2 0).toInt := (congrArg Int32.toInt (show σ64 2 0 = (σ 2 0) from ((congrFun (f66 2 (by decide)) 0).trans (congrFun (f50 2 (by decide)) 0))))
  have z95 : (σ64 55 6).toInt = (σ 55 6).toInt := (congrArg Int32.toInt (show σ64 55 6 = (σ 55 6) from ((f67 6 (by decide)).trans (congrFun (f50 55 (by decide)) 6))))
  have z96 : (σ64 2 2).toInt = (σ 2 2).toInt := (congrArg Int32.toInt (show σ64 2 2 = (σ 2 2) from ((congrFun (f66 2 (by decide)) 2).trans (congrFun (f50 2 (by decide)) 2))))
  have z97 : (σ64 55 5).toInt = (σ 55 5).toInt := (congrArg Int32.toInt (show σ64 55 5 = (σ 55 5) from ((f67 5 (by decide)).trans (congrFun (f50 55 (by decide)) 5))))
  have z98 : (σ64 2 3).toInt = (σ 2 3).toInt := (congrArg Int32.toInt (show σ64 2 3 = (σ 2 3) from ((congrFun (f66 2 (by decide)) 3).trans (congrFun (f50 2 (by decide)) 3))))
  have z99 : (σ64 55 4).toInt = (σ 55 4).toInt := (congrArg Int32.toInt (show σ64 55 4 = (σ 55 4) from ((f67 4 (by decide)).trans (congrFun (f50 55 (by decide)) 4))))
  have z100 : (σ64 9 0).toInt = (σ 9 0).toInt := (congrArg Int32.toInt (show σ64 9 0 = (σ 9 0) from ((congrFun (f66 9 (by decide)) 0).trans (congrFun (f50 9 (by decide)) 0))))
  have z101 : (σ64 55 15).toInt = (σ 55 15).toInt := (congrArg Int32.toInt (show σ64 55 15 = (σ 55 15) from ((f67 15 (by decide)).trans (congrFun (f50 55 (by decide)) 15))))
  have z102 : (σ64 16 0).toInt = (σ 16 0).toInt := (congrArg Int32.toInt (show σ64 16 0 = (σ 16 0) from ((congrFun (f66 16 (by decide)) 0).trans (congrFun (f50 16 (by decide)) 0))))
  have z103 : (σ64 55 10).toInt = (σ 55 10).toInt := (congrArg Int32.toInt (show σ64 55 10 = (σ 55 10) from ((f67 10 (by decide)).trans (congrFun (f50 55 (by decide)) 10))))
  have z104 : (σ64 16 1).toInt = (σ 16 1).toInt := (congrArg Int32.toInt (show σ64 16 1 = (σ 16 1) from ((congrFun (f66 16 (by decide)) 1).trans (congrFun (f50 16 (by decide)) 1))))
  have z105 : (σ64 55 12).toInt = (σ 55 12).toInt := (congrArg Int32.toInt (show σ64 55 12 = (σ 55 12) from ((f67 12 (by decide)).trans (congrFun (f50 55 (by decide)) 12))))
  have z106 : (σ64 16 2).toInt = (σ 16 2).toInt := (congrArg Int32.toInt (show σ64 16 2 = (σ 16 2) from ((congrFun (f66 16 (by decide)) 2).trans (congrFun (f50 16 (by decide)) 2))))
  have z107 : (σ64 55 13).toInt = (σ 55 13).toInt := (congrArg Int32.toInt (show σ64 55 13 = (σ 55 13) from ((f67 13 (by decide)).trans (congrFun (f50 55 (by decide)) 13))))
  have z108 : (σ64 38 0).toInt = (σ 38 0).toInt := (congrArg Int32.toInt (show σ64 38 0 = (σ 38 0) from ((congrFun (f66 38 (by decide)) 0).trans (congrFun (f50 38 (by decide)) 0))))
  have z109 : (σ64 55 32).toInt = (σ 55 32).toInt := (congrArg Int32.toInt (show σ64 55 32 = (σ 55 32) from ((f67 32 (by decide)).trans (congrFun (f50 55 (by decide)) 32))))
  have z110 : (σ64 47 0).toInt = (σ 47 0).toInt := (congrArg Int32.toInt (show σ64 47 0 = (σ 47 0) from ((congrFun (f66 47 (by decide)) 0).trans (congrFun (f50 47 (by decide)) 0))))
  have z111 : (σ64 55 47).toInt = (σ 55 47).toInt := (congrArg Int32.toInt (show σ64 55 47 = (σ 55 47) from ((f67 47 (by decide)).trans (congrFun (f50 55 (by decide)) 47))))
  have z112 : (σ64 55 30).toInt = (σ 55 30).toInt := (congrArg Int32.toInt (show σ64 55 30 = (σ 55 30) from ((f67 30 (by decide)).trans (congrFun (f50 55 (by decide)) 30))))
  have z113 : (σ64 55 31).toInt = (σ 55 31).toInt := (congrArg Int32.toInt (show σ64 55 31 = (σ 55 31) from ((f67 31 (by decide)).trans (congrFun (f50 55 (by decide)) 31))))
  exact ih x72 σ64 τ _ _ ls (by have h9 := tx72; omega) ⟨I73, I74, I75, I76, I77, I78, I79, I80, I81, I82, I83, I84, I85, I86, I87, I88, I89, I90, I91, I92, I93, I68, p69, p70, (by omega), (by omega), (by omega), (by omega), (by omega), (by omega), (by omega), (by omega), (by omega), (by omega), (by omega), (show jNumP (σ64 3) (σ64 56) (σ64 6) (σ64 57) (σ64 7) (σ64 58) (σ64 8) (σ64 59) (σ64 55 6).toInt (σ64 55 4).toInt by rw [show σ64 3 = σ 3 from ((f66 3 (by decide)).trans (f50 3 (by decide))), show σ64 56 = σ 56 from ((f66 56 (by decide)).trans (f50 56 (by decide))), show σ64 6 = σ 6 from ((f66 6 (by decide)).trans (f50 6 (by decide))), show σ64 57 = σ 57 from ((f66 57 (by decide)).trans (f50 57 (by decide))), show σ64 7 = σ 7 from ((f66 7 (by decide)).trans (f50 7 (by decide))), show σ64 58 = σ 58 from ((f66 58 (by decide)).trans (f50 58 (by decide))), show σ64 8 = σ 8 from ((f66 8 (by decide)).trans (f50 8 (by decide))), show σ64 59 = σ 59 from ((f66 59 (by decide)).trans (f50 59 (by decide))), show (σ64 55 6).toInt = (σ 55 6).toInt from by omega, show (σ64 55 4).toInt = (σ 55 4).toInt from by omega]; exact hr0), (show jOvP (σ64 56) (σ64 57) (σ64 58) (σ64 59) (σ64 55 4).toInt by rw [show σ64 56 = σ 56 from ((f66 56 (by decide)).trans (f50 56 (by decide))), show σ64 57 = σ 57 from ((f66 57 (by decide)).trans (f50 57 (by decide))), show σ64 58 = σ 58 from ((f66 58 (by decide)).trans (f50 58 (by decide))), show σ64 59 = σ 59 from ((f66 59 (by decide)).trans (f50 59 (by decide))), show (σ64 55 4).toInt = (σ 55 4).toInt from by omega]; exact hr1), (show jTp (σ64 10) (σ64 63) (σ64 55 15).toInt by rw [show σ64 10 = σ 10 from ((f66 10 (by decide)).trans (f50 10 (by decide))), show σ64 63 = σ 63 from ((f66 63 (by decide)).trans (f50 63 (by decide)))]; exact hr2.le (by omega)), (show jSo (σ64 17) (σ64 62) (σ64 16 0).toInt by rw [show σ64 17 = σ 17 from ((f66 17 (by decide)).trans (f50 17 (by decide))), show σ64 62 = σ 62 from ((f66 62 (by decide)).trans (f50 62 (by decide))), show (σ64 16 0).toInt = (σ 16 0).toInt from by omega]; exact hr3), (show jShP (σ64 51) (σ64 52) (σ64 53) (σ64 86) (σ64 87) (σ64 55 32).toInt by rw [show σ64 51 = σ 51 from ((f66 51 (by decide)).trans (f50 51 (by decide))), show σ64 52 = σ 52 from ((f66 52 (by decide)).trans (f50 52 (by decide))), show σ64 53 = σ 53 from ((f66 53 (by decide)).trans (f50 53 (by decide))), show σ64 86 = σ 86 from ((f66 86 (by decide)).trans (f50 86 (by decide))), show σ64 87 = σ 87 from ((f66 87 (by decide)).trans (f50 87 (by decide)))]; exact (hr4.up (by omega) (by omega))), (show jEl (σ64 51) (σ64 52) (τ 54) (τ 88) by rw [show σ64 51 = σ 51 from ((f66 51 (by decide)).trans (f50 51 (by decide))), show σ64 52 = σ 52 from ((f66 52 (by decide)).trans (f50 52 (by decide)))]; exact hr5), (show jByP (σ64 51) (σ64 52) (τ 54) by rw [show σ64 51 = σ 51 from ((f66 51 (by decide)).trans (f50 51 (by decide))), show σ64 52 = σ 52 from ((f66 52 (by decide)).trans (f50 52 (by decide)))]; exact hr6), (show jBk (σ64 48) (σ64 80) (σ64 49) (σ64 81) (σ64 55 47).toInt by rw [show σ64 48 = σ 48 from ((f66 48 (by decide)).trans (f50 48 (by decide))), show σ64 49 = σ 49 from ((f66 49 (by decide)).trans (f50 49 (by decide))), show σ64 80 = σ 80 from ((f66 80 (by decide)).trans (f50 80 (by decide))), show σ64 81 = σ 81 from ((f66 81 (by decide)).trans (f50 81 (by decide))), show (σ64 55 47).toInt = (σ 55 47).toInt from by omega]; exact hr7)⟩ hP hS (lv_sub hl [0, 1, 2, 3] rfl)
set_option maxHeartbeats 4000000 in
set_option maxRecDepth 100000 in
theorem law_case_14 {p : Program} {e : Env} {s : State} {m : MethodId} {below : List Frame} {meth : Method} {c : Code} (l : Launch) {b L : Nat} {xs : Nat → Int32} {D : va_G} {cI cL : ClassId} {ad zz : Nat → Nat} (C0 : lw_At p s m meth c b L xs) (hJ : jD ad) (hA : ∀ q, jA ad q → s.heap.size ≤ q) (hK : jK D cI cL s) (hZ : jZ zz (fun q : Nat => s.heap.size ≤ q) s s.heap) {x0 : Int32} (hx0 : 0 ≤ x0.toInt) (hxL : x0.toInt + 6 ≤ (L : Int)) (hL : L ≤ 384) {σ : Nat → Nat → Int32} {τ : Nat → Nat → Int64} {H : Heap} {locs : List Loc} (hS : va_S (fun q : Nat => s.heap.size ≤ q) s.heap H locs) {ls : Array Slot} (hAll : jAll σ τ) (hP : jH D cI cL ad σ τ H) (hl : lv_has ls 4 [(3, .int x0), (2, .ref (ad 55)), (1, .ref (ad 0)), (0, .ref b)]) (ih : ∀ (x1 : Int32) (σ : Nat → Nat → Int32) (τ : Nat → Nat → Int64) (H : Heap) (locs : List Loc) (ls : Array Slot), x1.toInt = x0.toInt + 6 → jAll σ τ → jH D cI cL ad σ τ H → va_S (fun q : Nat => s.heap.size ≤ q) s.heap H locs → lv_has ls 4 [(3, .int x1), (2, .ref (ad 55)), (1, .ref (ad 0)), (0, .ref b)] → W p l e room_1 s m #[Value.ref b] below meth c H locs 90 348600 (lw_Z below #[Value.ref b] s) (F0 m 18 ls [])) : W p l e room_1 s m #[Value.ref b] below meth c H locs 90 348600 (lw_Z below #[Value.ref b] s) (F0 m 628 ls []) := by
  obtain ⟨hx, hb, hr, hml, hown, hts0, hX, hbl, hlocks, hgv⟩ := C0
  have hts : ∀ w ∈ wsL_law, w.before #[Value.ref b] s = true := fun w h => hts0 w (wsL_law_in w h)
  have hbA : ¬ (fun q : Nat => s.heap.size ≤ q) b := Nat.not_le.mpr hbl
  have hown : s.vm.findClass RL = some m.cls := hown
  obtain ⟨hI2, hI9, hI12, hI16, hI18, hI22, hI31, hI38, hI43, hI47, hI50, hI101, hI102, hI103, hI104, hI105, hI106, hI107, hI109, hI110, hI111, hI119, hs_jKept, hs_jBook, ht0, ht1, ht2, ht3, ht4, ht5, ht6, ht7, ht8, ht9, ht10, hr0, hr1, hr2, hr3, hr4, hr5, hr6, hr7⟩ := hAll
  have hL9 : (L : Int) ≤ 384 := by omega
  obtain ⟨i1, i2, i3, i4, i5, w6⟩ : (0 ≤ (σ 2 0).toInt ∧ (σ 2 0).toInt ≤ 4) ∧ (0 ≤ (σ 2 1).toInt ∧ (σ 2 1).toInt ≤ 3) ∧ (0 ≤ (σ 2 2).toInt) ∧ (0 ≤ (σ 2 3).toInt) ∧ ((σ 2 2).toInt + (σ 2 3).toInt ≤ 40) ∧ (∀ k : Nat, k < 40 → 0 ≤ (σ 6 k).toInt ∧ (σ 6 k).toInt ≤ 67) := id hI2
  obtain ⟨i7, w8, w9⟩ : (0 ≤ (σ 9 0).toInt ∧ (σ 9 0).toInt ≤ 80) ∧ (∀ k : Nat, k < 80 → 0 ≤ (σ 10 k).toInt ∧ (σ 10 k).toInt ≤ 255) ∧ (∀ k : Nat, k < 8 → 0 ≤ (σ 11 k).toInt ∧ (σ 11 k).toInt ≤ 3) := id hI9
  obtain ⟨i10, i11, i12, w13⟩ : (1 ≤ (σ 16 0).toInt ∧ (σ 16 0).toInt ≤ 8) ∧ (1 ≤ (σ 16 1).toInt ∧ (σ 16 1).toInt ≤ 12) ∧ (0 ≤ (σ 16 2).toInt ∧ (σ 16 2).toInt ≤ 999) ∧ (∀ k : Nat, k < 8 → 0 ≤ (σ 17 k).toInt ∧ (σ 17 k).toInt ≤ 3) := id hI16
  obtain ⟨i14, i15, w16⟩ : (0 ≤ (σ 38 0).toInt ∧ (σ 38 0).toInt ≤ 20) ∧ (0 ≤ (σ 38 1).toInt ∧ (σ 38 1).toInt ≤ 1000) ∧ (∀ k : Nat, k < 20 → 0 ≤ (σ 39 k).toInt ∧ (σ 39 k).toInt ≤ 6) := id hI38
  obtain ⟨i17, w18, w19⟩ : (0 ≤ (σ 47 0).toInt ∧ (σ 47 0).toInt ≤ 12) ∧ (∀ k : Nat, k < 12 → 0 ≤ (σ 48 k).toInt ∧ (σ 48 k).toInt ≤ 3) ∧ (∀ k : Nat, k < 12 → 0 ≤ (σ 49 k).toInt ∧ (σ 49 k).toInt ≤ 1) := id hI47
  have w20 : ∀ k : Nat, k < 6 → 0 ≤ (σ 52 k).toInt ∧ (σ 52 k).toInt ≤ 60 := hI50
  obtain ⟨i21, i22, i23, w24, w25, w26, w27⟩ : (0 ≤ (σ 55 5).toInt) ∧ ((σ 55 5).toInt ≤ (σ 55 4).toInt) ∧ ((σ 55 4).toInt ≤ 40) ∧ (∀ k : Nat, k < 68 → (-200) ≤ (σ 56 k).toInt ∧ (σ 56 k).toInt ≤ 500) ∧ (∀ k : Nat, k < 40 → 0 ≤ (σ 57 k).toInt ∧ (σ 57 k).toInt ≤ 67) ∧ (∀ k : Nat, k < 40 → (-200) ≤ (σ 58 k).toInt ∧ (σ 58 k).toInt ≤ 500) ∧ (∀ k : Nat, k < 40 → (-200) ≤ (σ 59 k).toInt ∧ (σ 59 k).toInt ≤ 500) := id hI101
  obtain ⟨i28, w29, w30⟩ : (0 ≤ (σ 55 6).toInt ∧ (σ 55 6).toInt ≤ 4) ∧ (∀ k : Nat, k < 4 → 0 ≤ (σ 60 k).toInt ∧ (σ 60 k).toInt ≤ 50) ∧ (∀ k : Nat, k < 4 → 0 ≤ (σ 61 k).toInt ∧ (σ 61 k).toInt ≤ 20) := id hI102
  obtain ⟨i31, i32, i33, w34, w35⟩ : (1 ≤ (σ 55 10).toInt ∧ (σ 55 10).toInt ≤ 8) ∧ (1 ≤ (σ 55 12).toInt ∧ (σ 55 12).toInt ≤ 12) ∧ (0 ≤ (σ 55 13).toInt ∧ (σ 55 13).toInt ≤ 999) ∧ (∀ k : Nat, k < 8 → 0 ≤ (σ 62 k).toInt ∧ (σ 62 k).toInt ≤ 3) ∧ (∀ k : Nat, k < 8 → 0 ≤ (σ 67 k).toInt ∧ (σ 67 k).toInt ≤ 3) := id hI104
  obtain ⟨i36, w37⟩ : (0 ≤ (σ 55 15).toInt ∧ (σ 55 15).toInt ≤ 80) ∧ (∀ k : Nat, k < 2 → (-1) ≤ (σ 65 k).toInt ∧ (σ 65 k).toInt ≤ 80) := id hI105
  obtain ⟨i38, w39, w40, w41⟩ : (0 ≤ (σ 55 32).toInt ∧ (σ 55 32).toInt ≤ 20) ∧ (∀ k : Nat, k < 20 → 0 ≤ (σ 70 k).toInt ∧ (σ 70 k).toInt ≤ 6) ∧ (∀ k : Nat, k < 20 → 0 ≤ (σ 71 k).toInt ∧ (σ 71 k).toInt ≤ 8) ∧ (∀ k : Nat, k < 160 → 0 ≤ (σ 72 k).toInt ∧ (σ 72 k).toInt ≤ 3) := id hI106
  obtain ⟨i42, i43, w44⟩ : (0 ≤ (σ 55 47).toInt ∧ (σ 55 47).toInt ≤ 12) ∧ ((σ 55 47).toInt ≤ (σ 55 12).toInt) ∧ (∀ k : Nat, k < 12 → 0 ≤ (σ 80 k).toInt ∧ (σ 80 k).toInt ≤ 3) := id hI107
  refine lv_aload_n hx hb dL_law_628 rfl (lv_at hl 2 rfl) ?_
  refine lv_aload_n hx hb dL_law_629 rfl (lv_at hl 3 rfl) ?_
  refine lv_iload_n hx hb dL_law_630 rfl (lv_at hl 0 rfl) ?_
  refine lv_iconst (v := 1) hx hb dL_law_631 (by decide) ?_
  have g45 := jrg (rfl : x0.toInt = x0.toInt)
  refine lv_iadd hx hb dL_law_632 ?_
  refine lv_topi (fun x46 ex46 => ?_)
  have tx46 : x46.toInt = x0.toInt + 1 := (jadd ex46 rfl jz_1 (by omega) (by omega)).trans (by omega)
  refine va_sld hx hb hX hbl hbA hS (jin tx46 (by omega) (by omega)) dL_law_633 ?_
  have g47 := jrg (rfl : (xs x46.toNatClampNeg).toInt = (xs x46.toNatClampNeg).toInt)
  refine lv_aload_n hx hb dL_law_634 rfl (lv_at hl 3 rfl) ?_
  refine lv_iload_n hx hb dL_law_635 rfl (lv_at hl 0 rfl) ?_
  refine lv_iconst (v := 2) hx hb dL_law_636 (by decide) ?_
  refine lv_iadd hx hb dL_law_637 ?_
  refine lv_topi (fun x48 ex48 => ?_)
  have tx48 : x48.toInt = x0.toInt + 2 := (jadd ex48 rfl jz_2 (by omega) (by omega)).trans (by omega)
  refine va_sld hx hb hX hbl hbA hS (jin tx48 (by omega) (by omega)) dL_law_638 ?_
  have g49 := jrg (rfl : (xs x48.toNatClampNeg).toInt = (xs x48.toNatClampNeg).toInt)
  refine jcallV (As := [.int (xs x46.toNatClampNeg), .int (xs x48.toNatClampNeg)]) (rest := []) ⟨hx, hb, hml, hown, hts⟩ hK hP hA hS hZ (c_X11_worth l D cI cL ad zz hJ σ τ (xs x46.toNatClampNeg) ((xs x46.toNatClampNeg).toInt) rfl (xs x48.toNatClampNeg) ((xs x48.toNatClampNeg).toInt) rfl hI2 hI16 hI22 hI31) cw_RL_73 (jc_0 cI cL ad σ τ) rfl ⟨Nat.le_of_ble_eq_true rfl, Nat.le_of_ble_eq_true rfl⟩ rfl rfl rfl hl.1 rfl (Nat.le_of_ble_eq_true rfl) dL_law_639 ⟨Nat.le_of_ble_eq_true rfl, Nat.le_of_ble_eq_true rfl⟩ (fun r51 σ50 τ50 H locs h50 hP hS => ?_)
  obtain ⟨rfl, f52, f53, I54, h50⟩ := h50
  refine lv_pop hx hb dL_law_642 rfl ?_
  refine lv_aload_n hx hb dL_law_643 rfl (lv_at hl 1 rfl) ?_
  refine lv_aload_n hx hb dL_law_644 rfl (lv_at hl 3 rfl) ?_
  refine lv_iload_n hx hb dL_law_645 rfl (lv_at hl 0 rfl) ?_
  refine lv_iconst (v := 1) hx hb dL_law_646 (by decide) ?_
  refine lv_iadd hx hb dL_law_647 ?_
  refine jtopr ex46.symm ?_
  refine va_sld hx hb hX hbl hbA hS (jin tx46 (by omega) (by omega)) dL_law_648 ?_
  refine lv_aload_n hx hb dL_law_649 rfl (lv_at hl 3 rfl) ?_
  refine lv_iload_n hx hb dL_law_650 rfl (lv_at hl 0 rfl) ?_
  refine lv_iconst (v := 2) hx hb dL_law_651 (by decide) ?_
  refine lv_iadd hx hb dL_law_652 ?_
  refine jtopr ex48.symm ?_
  refine va_sld hx hb hX hbl hbA hS (jin tx48 (by omega) (by omega)) dL_law_653 ?_
  have I56 : jI101 σ50 := jI101_fr (congrFun (f52 55 (by decide)) 4) (congrFun (f52 55 (by decide)) 5) (f52 56 (by decide)) (f52 57 (by decide)) (f52 58 (by decide)) (f52 59 (by decide)) hI101
  have I57 : jI102 σ50 := jI102_fr (congrFun (f52 55 (by decide)) 6) (f52 60 (by decide)) (f52 61 (by decide)) hI102
  have I58 : jI103 σ50 := jI103_fr (congrFun (f52 55 (by decide)) 9) hI103
  have I59 : jI104 σ50 := jI104_fr (congrFun (f52 55 (by decide)) 10) (congrFun (f52 55 (by decide)) 12) (congrFun (f52 55 (by decide)) 13) (f52 62 (by decide)) (f52 67 (by decide)) hI104
  have I60 : jI105 σ50 := jI105_fr (congrFun (f52 55 (by decide)) 15) (f52 65 (by decide)) hI105
  have I61 : jI106 σ50 := jI106_fr (congrFun (f52 55 (by decide)) 32) (f52 70 (by decide)) (f52 71 (by decide)) (f52 72 (by decide)) hI106
  have I62 : jI119 σ50 := jI119_fr (f52 68 (by decide)) hI119
  have p63 : jKept σ50 := jKept.fr (f52 75 (by decide)) (f52 76 (by decide)) (f52 77 (by decide)) hs_jKept
  have z64 : (σ50 55 30).toInt = (σ 55 30).toInt := (congrArg Int32.toInt (show σ50 55 30 = (σ 55 30) from (congrFun (f52 55 (by decide)) 30)))
  have z65 : (σ50 55 31).toInt = (σ 55 31).toInt := (congrArg Int32.toInt (show σ50 55 31 = (σ 55 31) from (congrFun (f52 55 (by decide)) 31)))
  refine jcallV (As := [.int (xs x46.toNatClampNeg), .int (xs x48.toNatClampNeg)]) (rest := []) ⟨hx, hb, hml, hown, hts⟩ hK hP hA hS hZ (c_X12_worth l D cI cL ad zz hJ σ50 τ (xs x46.toNatClampNeg) ((xs x46.toNatClampNeg).toInt) rfl (xs x48.toNatClampNeg) ((xs x48.toNatClampNeg).toInt) rfl I56 I57 I58 I59 I60 I61 I62 p63) cw_RL_76 (jc_55 cI cL ad σ50 τ) rfl ⟨Nat.le_of_ble_eq_true rfl, Nat.le_of_ble_eq_true rfl⟩ rfl rfl rfl hl.1 rfl (Nat.le_of_ble_eq_true rfl) dL_law_654 ⟨Nat.le_of_ble_eq_true rfl, Nat.le_of_ble_eq_true rfl⟩ (fun r67 σ66 τ66 H locs h66 hP hS => ?_)
  obtain ⟨rfl, f68, f69, I70, p71, h66⟩ := h66
  obtain ⟨k73, h66⟩ := h66
  refine lv_pop hx hb dL_law_657 rfl ?_
  refine lv_goto (tgt := 1357) hx hb dL_law_658 (by decide) ?_
  obtain ⟨x74, ex74⟩ : ∃ y : Int32, y = x0 + 6 := ⟨_, rfl⟩
  have tx74 : x74.toInt = x0.toInt + 6 := (jadd ex74 rfl jz_6 (by omega) (by omega)).trans (by omega)
  refine lv_iinc (v := x74) (lv' := [(3, .int x74), (2, .ref (ad 55)), (1, .ref (ad 0)), (0, .ref b)]) hx hb dL_law_1357 hl (k := 0) rfl (by rw [ex74]; rfl) (by decide) rfl (fun ls hl => ?_)
  refine lv_goto (tgt := 18) hx hb dL_law_1360 (by decide) ?_
  have I75 : jI2 σ66 := jI2_fr ((congrFun (f68 2 (by decide)) 0).trans (congrFun (f52 2 (by decide)) 0)) ((congrFun (f68 2 (by decide)) 1).trans (congrFun (f52 2 (by decide)) 1)) ((congrFun (f68 2 (by decide)) 2).trans (congrFun (f52 2 (by decide)) 2)) ((congrFun (f68 2 (by decide)) 3).trans (congrFun (f52 2 (by decide)) 3)) ((f68 6 (by decide)).trans (f52 6 (by decide))) hI2
  have I76 : jI9 σ66 := jI9_fr ((congrFun (f68 9 (by decide)) 0).trans (congrFun (f52 9 (by decide)) 0)) ((f68 10 (by decide)).trans (f52 10 (by decide))) ((f68 11 (by decide)).trans (f52 11 (by decide))) hI9
  have I77 : jI12 σ66 := jI12_fr ((congrFun (f68 12 (by decide)) 0).trans (congrFun (f52 12 (by decide)) 0)) ((f68 13 (by decide)).trans (f52 13 (by decide))) hI12
  have I78 : jI16 σ66 := jI16_fr ((congrFun (f68 16 (by decide)) 0).trans (congrFun (f52 16 (by decide)) 0)) ((congrFun (f68 16 (by decide)) 1).trans (congrFun (f52 16 (by decide)) 1)) ((congrFun (f68 16 (by decide)) 2).trans (congrFun (f52 16 (by decide)) 2)) ((f68 17 (by decide)).trans (f52 17 (by decide))) hI16
  have I79 : jI18 σ66 := jI18_fr ((congrFun (f68 18 (by decide)) 0).trans (congrFun (f52 18 (by decide)) 0)) ((f68 19 (by decide)).trans (f52 19 (by decide))) hI18
  have I80 : jI22 σ66 := jI22_fr ((congrFun (f68 22 (by decide)) 0).trans (congrFun (f52 22 (by decide)) 0)) ((f68 23 (by decide)).trans (f52 23 (by decide))) hI22
  have I81 : jI31 σ66 := jI31_fr (congrFun (f68 31 (by decide)) 8) (f68 33 (by decide)) (f68 36 (by decide)) I54
  have I82 : jI38 σ66 := jI38_fr ((congrFun (f68 38 (by decide)) 0).trans (congrFun (f52 38 (by decide)) 0)) ((congrFun (f68 38 (by decide)) 1).trans (congrFun (f52 38 (by decide)) 1)) ((f68 39 (by decide)).trans (f52 39 (by decide))) hI38
  have I83 : jI43 σ66 := jI43_fr ((congrFun (f68 43 (by decide)) 8).trans (congrFun (f52 43 (by decide)) 8)) hI43
  have I84 : jI47 σ66 := jI47_fr ((congrFun (f68 47 (by decide)) 0).trans (congrFun (f52 47 (by decide)) 0)) ((f68 48 (by decide)).trans (f52 48 (by decide))) ((f68 49 (by decide)).trans (f52 49 (by decide))) hI47
  have I85 : jI50 σ66 := jI50_fr ((f68 52 (by decide)).trans (f52 52 (by decide))) hI50
  have I86 : jI101 σ66 := jI101_fr (f69 4 (by decide)) (f69 5 (by decide)) (f68 56 (by decide)) (f68 57 (by decide)) (f68 58 (by decide)) (f68 59 (by decide)) I56
  have I87 : jI102 σ66 := jI102_fr (f69 6 (by decide)) (f68 60 (by decide)) (f68 61 (by decide)) I57
  have I88 : jI103 σ66 := jI103_fr (f69 9 (by decide)) I58
  have I89 : jI104 σ66 := jI104_fr (f69 10 (by decide)) (f69 12 (by decide)) (f69 13 (by decide)) (f68 62 (by decide)) (f68 67 (by decide)) I59
  have I90 : jI105 σ66 := jI105_fr (f69 15 (by decide)) (f68 65 (by decide)) I60
  have I91 : jI106 σ66 := jI106_fr (f69 32 (by decide)) (f68 70 (by decide)) (f68 71 (by decide)) (f68 72 (by decide)) I61
  have I92 : jI107 σ66 := jI107_fr ((f69 12 (by decide)).trans (congrFun (f52 55 (by decide)) 12)) ((f69 47 (by decide)).trans (congrFun (f52 55 (by decide)) 47)) ((f68 80 (by decide)).trans (f52 80 (by decide))) hI107
  have I93 : jI109 σ66 := jI109_fr ((f69 50 (by decide)).trans (congrFun (f52 55 (by decide)) 50)) hI109
  have I94 : jI110 σ66 := jI110_fr ((f68 86 (by decide)).trans (f52 86 (by decide))) ((f68 87 (by decide)).trans (f52 87 (by decide))) hI110
  have I95 : jI111 σ66 := jI111_fr ((f68 79 (by decide)).trans (f52 79 (by decide))) hI111
  have p96 : jBook σ66 := jBook.fr ((f69 47 (by decide)).trans (congrFun (f52 55 (by decide)) 47)) ((f69 10 (by decide)).trans (congrFun (f52 55 (by decide)) 10)) ((f68 81 (by decide)).trans (f52 81 (by decide))) hs_jBook
  have z97 : (σ66 2 0).toInt = (σ 2 0).toInt := (congrArg Int32.toInt (show σ66 2 0 = (σ 2 0) from ((congrFun (f68 2 (by decide)) 0).trans (congrFun (f52 2 (by decide)) 0))))
  have z98 : (σ66 55 6).toInt = (σ 55 6).toInt := (congrArg Int32.toInt (show σ66 55 6 = (σ 55 6) from ((f69 6 (by decide)).trans (congrFun (f52 55 (by decide)) 6))))
  have z99 : (σ66 2 2).toInt = (σ 2 2).toInt := (congrArg Int32.toInt (show σ66 2 2 = (σ 2 2) from ((congrFun (f68 2 (by decide)) 2).trans (congrFun (f52 2 (by decide)) 2))))
  have z100 : (σ66 55 5).toInt = (σ 55 5).toInt := (congrArg Int32.toInt (show σ66 55 5 = (σ 55 5) from ((f69 5 (by decide)).trans (congrFun (f52 55 (by decide)) 5))))
  have z101 : (σ66 2 3).toInt = (σ 2 3).toInt := (congrArg Int32.toInt (show σ66 2 3 = (σ 2 3) from ((congrFun (f68 2 (by decide)) 3).trans (congrFun (f52 2 (by decide)) 3))))
  have z102 : (σ66 55 4).toInt = (σ 55 4).toInt := (congrArg Int32.toInt (show σ66 55 4 = (σ 55 4) from ((f69 4 (by decide)).trans (congrFun (f52 55 (by decide)) 4))))
  have z103 : (σ66 9 0).toInt = (σ 9 0).toInt := (congrArg Int32.toInt (show σ66 9 0 = (σ 9 0) from ((congrFun (f68 9 (by decide)) 0).trans (congrFun (f52 9 (by decide)) 0))))
  have z104 : (σ66 55 15).toInt = (σ 55 15).toInt := (congrArg Int32.toInt (show σ66 55 15 = (σ 55 15) from ((f69 15 (by decide)).trans (congrFun (f52 55 (by decide)) 15))))
  have z105 : (σ66 16 0).toInt = (σ 16 0).toInt := (congrArg Int32.toInt (show σ66 16 0 = (σ 16 0) from ((congrFun (f68 16 (by decide)) 0).trans (congrFun (f52 16 (by decide)) 0))))
  have z106 : (σ66 55 10).toInt = (σ 55 10).toInt := (congrArg Int32.toInt (show σ66 55 10 = (σ 55 10) from ((f69 10 (by decide)).trans (congrFun (f52 55 (by decide)) 10))))
  have z107 : (σ66 16 1).toInt = (σ 16 1).toInt := (congrArg Int32.toInt (show σ66 16 1 = (σ 16 1) from ((congrFun (f68 16 (by decide)) 1).trans (congrFun (f52 16 (by decide)) 1))))
  have z108 : (σ66 55 12).toInt = (σ 55 12).toInt := (congrArg Int32.toInt (show σ66 55 12 = (σ 55 12) from ((f69 12 (by decide)).trans (congrFun (f52 55 (by decide)) 12))))
  have z109 : (σ66 16 2).toInt = (σ 16 2).toInt := (congrArg Int32.toInt (show σ66 16 2 = (σ 16 2) from ((congrFun (f68 16 (by decide)) 2).trans (congrFun (f52 16 (by decide)) 2))))
  have z110 : (σ66 55 13).toInt = (σ 55 13).toInt := (congrArg Int32.toInt (show σ66 55 13 = (σ 55 13) from ((f69 13 (by decide)).trans (congrFun (f52 55 (by decide)) 13))))
  have z111 : (σ66 38 0).toInt = (σ 38 0).toInt := (congrArg Int32.toInt (show σ66 38 0 = (σ 38 0) from ((congrFun (f68 38 (by decide)) 0).trans (congrFun (f52 38 (by decide)) 0))))
  have z112 : (σ66 55 32).toInt = (σ 55 32).toInt := (congrArg Int32.toInt (show σ66 55 32 = (σ 55 32) from ((f69 32 (by decide)).trans (congrFun (f52 55 (by decide)) 32))))
  have z113 : (σ66 47 0).toInt = (σ 47 0).toInt := (congrArg Int32.toInt (show σ66 47 0 = (σ 47 0) from ((congrFun (f68 47 (by decide)) 0).trans (congrFun (f52 47 (by decide)) 0))))
  have z114 : (σ66 55 47).toInt = (σ 55 47).toInt := (congrArg Int32.toInt (show σ66 55 47 = (σ 55 47) from ((f69 47 (by decide)).trans (congrFun (f52 55 (by decide)) 47))))
  exact ih x74 σ66 τ _ _ ls (by have h9 := tx74; omega) ⟨I75, I76, I77, I78, I79, I80, I81, I82, I83, I84, I85, I86, I87, I88, I89, I90, I91, I92, I93, I94, I95, I70, p71, p96, (by omega), (by omega), (by omega), (by omega), (by omega), (by omega), (by omega), (by omega), (by omega), (by omega), (by omega), (show jNumP (σ66 3) (σ66 56) (σ66 6) (σ66 57) (σ66 7) (σ66 58) (σ66 8) (σ66 59) (σ66 55 6).toInt (σ66 55 4).toInt by rw [show σ66 3 = σ 3 from ((f68 3 (by decide)).trans (f52 3 (by decide))), show σ66 56 = σ 56 from ((f68 56 (by decide)).trans (f52 56 (by decide))), show σ66 6 = σ 6 from ((f68 6 (by decide)).trans (f52 6 (by decide))), show σ66 57 = σ 57 from ((f68 57 (by decide)).trans (f52 57 (by decide))), show σ66 7 = σ 7 from ((f68 7 (by decide)).trans (f52 7 (by decide))), show σ66 58 = σ 58 from ((f68 58 (by decide)).trans (f52 58 (by decide))), show σ66 8 = σ 8 from ((f68 8 (by decide)).trans (f52 8 (by decide))), show σ66 59 = σ 59 from ((f68 59 (by decide)).trans (f52 59 (by decide))), show (σ66 55 6).toInt = (σ 55 6).toInt from by omega, show (σ66 55 4).toInt = (σ 55 4).toInt from by omega]; exact hr0), (show jOvP (σ66 56) (σ66 57) (σ66 58) (σ66 59) (σ66 55 4).toInt by rw [show σ66 56 = σ 56 from ((f68 56 (by decide)).trans (f52 56 (by decide))), show σ66 57 = σ 57 from ((f68 57 (by decide)).trans (f52 57 (by decide))), show σ66 58 = σ 58 from ((f68 58 (by decide)).trans (f52 58 (by decide))), show σ66 59 = σ 59 from ((f68 59 (by decide)).trans (f52 59 (by decide))), show (σ66 55 4).toInt = (σ 55 4).toInt from by omega]; exact hr1), (show jTp (σ66 10) (σ66 63) (σ66 55 15).toInt by rw [show σ66 10 = σ 10 from ((f68 10 (by decide)).trans (f52 10 (by decide))), show σ66 63 = σ 63 from ((f68 63 (by decide)).trans (f52 63 (by decide)))]; exact hr2.le (by omega)), (show jSo (σ66 17) (σ66 62) (σ66 16 0).toInt by rw [show σ66 17 = σ 17 from ((f68 17 (by decide)).trans (f52 17 (by decide))), show σ66 62 = σ 62 from ((f68 62 (by decide)).trans (f52 62 (by decide))), show (σ66 16 0).toInt = (σ 16 0).toInt from by omega]; exact hr3), (show jShP (σ66 51) (σ66 52) (σ66 53) (σ66 86) (σ66 87) (σ66 55 32).toInt by rw [show σ66 51 = σ 51 from ((f68 51 (by decide)).trans (f52 51 (by decide))), show σ66 52 = σ 52 from ((f68 52 (by decide)).trans (f52 52 (by decide))), show σ66 53 = σ 53 from ((f68 53 (by decide)).trans (f52 53 (by decide))), show σ66 86 = σ 86 from ((f68 86 (by decide)).trans (f52 86 (by decide))), show σ66 87 = σ 87 from ((f68 87 (by decide)).trans (f52 87 (by decide)))]; exact (hr4.up (by omega) (by omega))), (show jEl (σ66 51) (σ66 52) (τ 54) (τ 88) by rw [show σ66 51 = σ 51 from ((f68 51 (by decide)).trans (f52 51 (by decide))), show σ66 52 = σ 52 from ((f68 52 (by decide)).trans (f52 52 (by decide)))]; exact hr5), (show jByP (σ66 51) (σ66 52) (τ 54) by rw [show σ66 51 = σ 51 from ((f68 51 (by decide)).trans (f52 51 (by decide))), show σ66 52 = σ 52 from ((f68 52 (by decide)).trans (f52 52 (by decide)))]; exact hr6), (show jBk (σ66 48) (σ66 80) (σ66 49) (σ66 81) (σ66 55 47).toInt by rw [show σ66 48 = σ 48 from ((f68 48 (by decide)).trans (f52 48 (by decide))), show σ66 49 = σ 49 from ((f68 49 (by decide)).trans (f52 49 (by decide))), show σ66 80 = σ 80 from ((f68 80 (by decide)).trans (f52 80 (by decide))), show σ66 81 = σ 81 from ((f68 81 (by decide)).trans (f52 81 (by decide))), show (σ66 55 47).toInt = (σ 55 47).toInt from by omega]; exact hr7)⟩ hP hS (lv_sub hl [0, 1, 2, 3] rfl)
set_option maxHeartbeats 4000000 in
set_option maxRecDepth 100000 in
theorem law_case_15 {p : Program} {e : Env} {s : State} {m : MethodId} {below : List Frame} {meth : Method} {c : Code} (l : Launch) {b L : Nat} {xs : Nat → Int32} {D : va_G} {cI cL : ClassId} {ad zz : Nat → Nat} (C0 : lw_At p s m meth c b L xs) (hJ : jD ad) (hA : ∀ q, jA ad q → s.heap.size ≤ q) (hK : jK D cI cL s) (hZ : jZ zz (fun q : Nat => s.heap.size ≤ q) s s.heap) {x0 : Int32} (hx0 : 0 ≤ x0.toInt) (hxL : x0.toInt + 6 ≤ (L : Int)) (hL : L ≤ 384) {σ : Nat → Nat → Int32} {τ : Nat → Nat → Int64} {H : Heap} {locs : List Loc} (hS : va_S (fun q : Nat => s.heap.size ≤ q) s.heap H locs) {ls : Array Slot} (hAll : jAll σ τ) (hP : jH D cI cL ad σ τ H) (hl : lv_has ls 4 [(3, .int x0), (2, .ref (ad 55)), (1, .ref (ad 0)), (0, .ref b)]) (ih : ∀ (x1 : Int32) (σ : Nat → Nat → Int32) (τ : Nat → Nat → Int64) (H : Heap) (locs : List Loc) (ls : Array Slot), x1.toInt = x0.toInt + 6 → jAll σ τ → jH D cI cL ad σ τ H → va_S (fun q : Nat => s.heap.size ≤ q) s.heap H locs → lv_has ls 4 [(3, .int x1), (2, .ref (ad 55)), (1, .ref (ad 0)), (0, .ref b)] → W p l e room_1 s m #[Value.ref b] below meth c H locs 90 348600 (lw_Z below #[Value.ref b] s) (F0 m 18 ls [])) : W p l e room_1 s m #[Value.ref b] below meth c H locs 90 348600 (lw_Z below #[Value.ref b] s) (F0 m 661 ls []) := by
  obtain ⟨hx, hb, hr, hml, hown, hts0, hX, hbl, hlocks, hgv⟩ := C0
  have hts : ∀ w ∈ wsL_law, w.before #[Value.ref b] s = true := fun w h => hts0 w (wsL_law_in w h)
  have hbA : ¬ (fun q : Nat => s.heap.size ≤ q) b := Nat.not_le.mpr hbl
  have hown : s.vm.findClass RL = some m.cls := hown
  obtain ⟨hI2, hI9, hI12, hI16, hI18, hI22, hI31, hI38, hI43, hI47, hI50, hI101, hI102, hI103, hI104, hI105, hI106, hI107, hI109, hI110, hI111, hI119, hs_jKept, hs_jBook, ht0, ht1, ht2, ht3, ht4, ht5, ht6, ht7, ht8, ht9, ht10, hr0, hr1, hr2, hr3, hr4, hr5, hr6, hr7⟩ := hAll
  have hL9 : (L : Int) ≤ 384 := by omega
  obtain ⟨i1, i2, i3, i4, i5, w6⟩ : (0 ≤ (σ 2 0).toInt ∧ (σ 2 0).toInt ≤ 4) ∧ (0 ≤ (σ 2 1).toInt ∧ (σ 2 1).toInt ≤ 3) ∧ (0 ≤ (σ 2 2).toInt) ∧ (0 ≤ (σ 2 3).toInt) ∧ ((σ 2 2).toInt + (σ 2 3).toInt ≤ 40) ∧ (∀ k : Nat, k < 40 → 0 ≤ (σ 6 k).toInt ∧ (σ 6 k).toInt ≤ 67) := id hI2
  obtain ⟨i7, w8, w9⟩ : (0 ≤ (σ 9 0).toInt ∧ (σ 9 0).toInt ≤ 80) ∧ (∀ k : Nat, k < 80 → 0 ≤ (σ 10 k).toInt ∧ (σ 10 k).toInt ≤ 255) ∧ (∀ k : Nat, k < 8 → 0 ≤ (σ 11 k).toInt ∧ (σ 11 k).toInt ≤ 3) := id hI9
  obtain ⟨i10, i11, i12, w13⟩ : (1 ≤ (σ 16 0).toInt ∧ (σ 16 0).toInt ≤ 8) ∧ (1 ≤ (σ 16 1).toInt ∧ (σ 16 1).toInt ≤ 12) ∧ (0 ≤ (σ 16 2).toInt ∧ (σ 16 2).toInt ≤ 999) ∧ (∀ k : Nat, k < 8 → 0 ≤ (σ 17 k).toInt ∧ (σ 17 k).toInt ≤ 3) := id hI16
  obtain ⟨i14, i15, w16⟩ : (0 ≤ (σ 38 0).toInt ∧ (σ 38 0).toInt ≤ 20) ∧ (0 ≤ (σ 38 1).toInt ∧ (σ 38 1).toInt ≤ 1000) ∧ (∀ k : Nat, k < 20 → 0 ≤ (σ 39 k).toInt ∧ (σ 39 k).toInt ≤ 6) := id hI38
  obtain ⟨i17, w18, w19⟩ : (0 ≤ (σ 47 0).toInt ∧ (σ 47 0).toInt ≤ 12) ∧ (∀ k : Nat, k < 12 → 0 ≤ (σ 48 k).toInt ∧ (σ 48 k).toInt ≤ 3) ∧ (∀ k : Nat, k < 12 → 0 ≤ (σ 49 k).toInt ∧ (σ 49 k).toInt ≤ 1) := id hI47
  have w20 : ∀ k : Nat, k < 6 → 0 ≤ (σ 52 k).toInt ∧ (σ 52 k).toInt ≤ 60 := hI50
  obtain ⟨i21, i22, i23, w24, w25, w26, w27⟩ : (0 ≤ (σ 55 5).toInt) ∧ ((σ 55 5).toInt ≤ (σ 55 4).toInt) ∧ ((σ 55 4).toInt ≤ 40) ∧ (∀ k : Nat, k < 68 → (-200) ≤ (σ 56 k).toInt ∧ (σ 56 k).toInt ≤ 500) ∧ (∀ k : Nat, k < 40 → 0 ≤ (σ 57 k).toInt ∧ (σ 57 k).toInt ≤ 67) ∧ (∀ k : Nat, k < 40 → (-200) ≤ (σ 58 k).toInt ∧ (σ 58 k).toInt ≤ 500) ∧ (∀ k : Nat, k < 40 → (-200) ≤ (σ 59 k).toInt ∧ (σ 59 k).toInt ≤ 500) := id hI101
  obtain ⟨i28, w29, w30⟩ : (0 ≤ (σ 55 6).toInt ∧ (σ 55 6).toInt ≤ 4) ∧ (∀ k : Nat, k < 4 → 0 ≤ (σ 60 k).toInt ∧ (σ 60 k).toInt ≤ 50) ∧ (∀ k : Nat, k < 4 → 0 ≤ (σ 61 k).toInt ∧ (σ 61 k).toInt ≤ 20) := id hI102
  obtain ⟨i31, i32, i33, w34, w35⟩ : (1 ≤ (σ 55 10).toInt ∧ (σ 55 10).toInt ≤ 8) ∧ (1 ≤ (σ 55 12).toInt ∧ (σ 55 12).toInt ≤ 12) ∧ (0 ≤ (σ 55 13).toInt ∧ (σ 55 13).toInt ≤ 999) ∧ (∀ k : Nat, k < 8 → 0 ≤ (σ 62 k).toInt ∧ (σ 62 k).toInt ≤ 3) ∧ (∀ k : Nat, k < 8 → 0 ≤ (σ 67 k).toInt ∧ (σ 67 k).toInt ≤ 3) := id hI104
  obtain ⟨i36, w37⟩ : (0 ≤ (σ 55 15).toInt ∧ (σ 55 15).toInt ≤ 80) ∧ (∀ k : Nat, k < 2 → (-1) ≤ (σ 65 k).toInt ∧ (σ 65 k).toInt ≤ 80) := id hI105
  obtain ⟨i38, w39, w40, w41⟩ : (0 ≤ (σ 55 32).toInt ∧ (σ 55 32).toInt ≤ 20) ∧ (∀ k : Nat, k < 20 → 0 ≤ (σ 70 k).toInt ∧ (σ 70 k).toInt ≤ 6) ∧ (∀ k : Nat, k < 20 → 0 ≤ (σ 71 k).toInt ∧ (σ 71 k).toInt ≤ 8) ∧ (∀ k : Nat, k < 160 → 0 ≤ (σ 72 k).toInt ∧ (σ 72 k).toInt ≤ 3) := id hI106
  obtain ⟨i42, i43, w44⟩ : (0 ≤ (σ 55 47).toInt ∧ (σ 55 47).toInt ≤ 12) ∧ ((σ 55 47).toInt ≤ (σ 55 12).toInt) ∧ (∀ k : Nat, k < 12 → 0 ≤ (σ 80 k).toInt ∧ (σ 80 k).toInt ≤ 3) := id hI107
  refine lv_aload_n hx hb dL_law_661 rfl (lv_at hl 2 rfl) ?_
  refine lv_aload_n hx hb dL_law_662 rfl (lv_at hl 3 rfl) ?_
  refine lv_iload_n hx hb dL_law_663 rfl (lv_at hl 0 rfl) ?_
  refine lv_iconst (v := 1) hx hb dL_law_664 (by decide) ?_
  have g45 := jrg (rfl : x0.toInt = x0.toInt)
  refine lv_iadd hx hb dL_law_665 ?_
  refine lv_topi (fun x46 ex46 => ?_)
  have tx46 : x46.toInt = x0.toInt + 1 := (jadd ex46 rfl jz_1 (by omega) (by omega)).trans (by omega)
  refine va_sld hx hb hX hbl hbA hS (jin tx46 (by omega) (by omega)) dL_law_666 ?_
  have g47 := jrg (rfl : (xs x46.toNatClampNeg).toInt = (xs x46.toNatClampNeg).toInt)
  refine lv_aload_n hx hb dL_law_667 rfl (lv_at hl 3 rfl) ?_
  refine lv_iload_n hx hb dL_law_668 rfl (lv_at hl 0 rfl) ?_
  refine lv_iconst (v := 2) hx hb dL_law_669 (by decide) ?_
  refine lv_iadd hx hb dL_law_670 ?_
  refine lv_topi (fun x48 ex48 => ?_)
  have tx48 : x48.toInt = x0.toInt + 2 := (jadd ex48 rfl jz_2 (by omega) (by omega)).trans (by omega)
  refine va_sld hx hb hX hbl hbA hS (jin tx48 (by omega) (by omega)) dL_law_671 ?_
  have g49 := jrg (rfl : (xs x48.toNatClampNeg).toInt = (xs x48.toNatClampNeg).toInt)
  refine jcallV (As := [.int (xs x46.toNatClampNeg), .int (xs x48.toNatClampNeg)]) (rest := []) ⟨hx, hb, hml, hown, hts⟩ hK hP hA hS hZ (c_X11_fielded l D cI cL ad zz hJ σ τ (xs x46.toNatClampNeg) ((xs x46.toNatClampNeg).toInt) rfl (xs x48.toNatClampNeg) ((xs x48.toNatClampNeg).toInt) rfl hI2 hI16 hI22 hI31) cw_RL_77 (jc_0 cI cL ad σ τ) rfl ⟨Nat.le_of_ble_eq_true rfl, Nat.le_of_ble_eq_true rfl⟩ rfl rfl rfl hl.1 rfl (Nat.le_of_ble_eq_true rfl) dL_law_672 ⟨Nat.le_of_ble_eq_true rfl, Nat.le_of_ble_eq_true rfl⟩ (fun r51 σ50 τ50 H locs h50 hP hS => ?_)
  obtain ⟨rfl, f52, f53, I54, h50⟩ := h50
  refine lv_pop hx hb dL_law_675 rfl ?_
  refine lv_aload_n hx hb dL_law_676 rfl (lv_at hl 1 rfl) ?_
  refine lv_aload_n hx hb dL_law_677 rfl (lv_at hl 3 rfl) ?_
  refine lv_iload_n hx hb dL_law_678 rfl (lv_at hl 0 rfl) ?_
  refine lv_iconst (v := 1) hx hb dL_law_679 (by decide) ?_
  refine lv_iadd hx hb dL_law_680 ?_
  refine jtopr ex46.symm ?_
  refine va_sld hx hb hX hbl hbA hS (jin tx46 (by omega) (by omega)) dL_law_681 ?_
  refine lv_aload_n hx hb dL_law_682 rfl (lv_at hl 3 rfl) ?_
  refine lv_iload_n hx hb dL_law_683 rfl (lv_at hl 0 rfl) ?_
  refine lv_iconst (v := 2) hx hb dL_law_684 (by decide) ?_
  refine lv_iadd hx hb dL_law_685 ?_
  refine jtopr ex48.symm ?_
  refine va_sld hx hb hX hbl hbA hS (jin tx48 (by omega) (by omega)) dL_law_686 ?_
  have I56 : jI101 σ50 := jI101_fr (congrFun (f52 55 (by decide)) 4) (congrFun (f52 55 (by decide)) 5) (f52 56 (by decide)) (f52 57 (by decide)) (f52 58 (by decide)) (f52 59 (by decide)) hI101
  have I57 : jI102 σ50 := jI102_fr (congrFun (f52 55 (by decide)) 6) (f52 60 (by decide)) (f52 61 (by decide)) hI102
  have I58 : jI103 σ50 := jI103_fr (congrFun (f52 55 (by decide)) 9) hI103
  have I59 : jI104 σ50 := jI104_fr (congrFun (f52 55 (by decide)) 10) (congrFun (f52 55 (by decide)) 12) (congrFun (f52 55 (by decide)) 13) (f52 62 (by decide)) (f52 67 (by decide)) hI104
  have I60 : jI105 σ50 := jI105_fr (congrFun (f52 55 (by decide)) 15) (f52 65 (by decide)) hI105
  have I61 : jI106 σ50 := jI106_fr (congrFun (f52 55 (by decide)) 32) (f52 70 (by decide)) (f52 71 (by decide)) (f52 72 (by decide)) hI106
  have I62 : jI119 σ50 := jI119_fr (f52 68 (by decide)) hI119
  have p63 : jKept σ50 := jKept.fr (f52 75 (by decide)) (f52 76 (by decide)) (f52 77 (by decide)) hs_jKept
  have z64 : (σ50 55 9).toInt = (σ 55 9).toInt := (congrArg Int32.toInt (show σ50 55 9 = (σ 55 9) from (congrFun (f52 55 (by decide)) 9)))
  refine jcallV (As := [.int (xs x46.toNatClampNeg), .int (xs x48.toNatClampNeg)]) (rest := []) ⟨hx, hb, hml, hown, hts⟩ hK hP hA hS hZ (c_X12_fielded l D cI cL ad zz hJ σ50 τ (xs x46.toNatClampNeg) ((xs x46.toNatClampNeg).toInt) rfl (xs x48.toNatClampNeg) ((xs x48.toNatClampNeg).toInt) rfl I56 I57 I58 I59 I60 I61 I62 p63) cw_RL_80 (jc_55 cI cL ad σ50 τ) rfl ⟨Nat.le_of_ble_eq_true rfl, Nat.le_of_ble_eq_true rfl⟩ rfl rfl rfl hl.1 rfl (Nat.le_of_ble_eq_true rfl) dL_law_687 ⟨Nat.le_of_ble_eq_true rfl, Nat.le_of_ble_eq_true rfl⟩ (fun r66 σ65 τ65 H locs h65 hP hS => ?_)
  obtain ⟨rfl, f67, f68, I69, I70, p71, h65⟩ := h65
  obtain ⟨k73, h65⟩ := h65
  refine lv_pop hx hb dL_law_690 rfl ?_
  refine lv_goto (tgt := 1357) hx hb dL_law_691 (by decide) ?_
  obtain ⟨x74, ex74⟩ : ∃ y : Int32, y = x0 + 6 := ⟨_, rfl⟩
  have tx74 : x74.toInt = x0.toInt + 6 := (jadd ex74 rfl jz_6 (by omega) (by omega)).trans (by omega)
  refine lv_iinc (v := x74) (lv' := [(3, .int x74), (2, .ref (ad 55)), (1, .ref (ad 0)), (0, .ref b)]) hx hb dL_law_1357 hl (k := 0) rfl (by rw [ex74]; rfl) (by decide) rfl (fun ls hl => ?_)
  refine lv_goto (tgt := 18) hx hb dL_law_1360 (by decide) ?_
  have I75 : jI2 σ65 := jI2_fr ((congrFun (f67 2 (by decide)) 0).trans (congrFun (f52 2 (by decide)) 0)) ((congrFun (f67 2 (by decide)) 1).trans (congrFun (f52 2 (by decide)) 1)) ((congrFun (f67 2 (by decide)) 2).trans (congrFun (f52 2 (by decide)) 2)) ((congrFun (f67 2 (by decide)) 3).trans (congrFun (f52 2 (by decide)) 3)) ((f67 6 (by decide)).trans (f52 6 (by decide))) hI2
  have I76 : jI9 σ65 := jI9_fr ((congrFun (f67 9 (by decide)) 0).trans (congrFun (f52 9 (by decide)) 0)) ((f67 10 (by decide)).trans (f52 10 (by decide))) ((f67 11 (by decide)).trans (f52 11 (by decide))) hI9
  have I77 : jI12 σ65 := jI12_fr ((congrFun (f67 12 (by decide)) 0).trans (congrFun (f52 12 (by decide)) 0)) ((f67 13 (by decide)).trans (f52 13 (by decide))) hI12
  have I78 : jI16 σ65 := jI16_fr ((congrFun (f67 16 (by decide)) 0).trans (congrFun (f52 16 (by decide)) 0)) ((congrFun (f67 16 (by decide)) 1).trans (congrFun (f52 16 (by decide)) 1)) ((congrFun (f67 16 (by decide)) 2).trans (congrFun (f52 16 (by decide)) 2)) ((f67 17 (by decide)).trans (f52 17 (by decide))) hI16
  have I79 : jI18 σ65 := jI18_fr ((congrFun (f67 18 (by decide)) 0).trans (congrFun (f52 18 (by decide)) 0)) ((f67 19 (by decide)).trans (f52 19 (by decide))) hI18
  have I80 : jI22 σ65 := jI22_fr ((congrFun (f67 22 (by decide)) 0).trans (congrFun (f52 22 (by decide)) 0)) ((f67 23 (by decide)).trans (f52 23 (by decide))) hI22
  have I81 : jI31 σ65 := jI31_fr (congrFun (f67 31 (by decide)) 8) (f67 33 (by decide)) (f67 36 (by decide)) I54
  have I82 : jI38 σ65 := jI38_fr ((congrFun (f67 38 (by decide)) 0).trans (congrFun (f52 38 (by decide)) 0)) ((congrFun (f67 38 (by decide)) 1).trans (congrFun (f52 38 (by decide)) 1)) ((f67 39 (by decide)).trans (f52 39 (by decide))) hI38
  have I83 : jI43 σ65 := jI43_fr ((congrFun (f67 43 (by decide)) 8).trans (congrFun (f52 43 (by decide)) 8)) hI43
  have I84 : jI47 σ65 := jI47_fr ((congrFun (f67 47 (by decide)) 0).trans (congrFun (f52 47 (by decide)) 0)) ((f67 48 (by decide)).trans (f52 48 (by decide))) ((f67 49 (by decide)).trans (f52 49 (by decide))) hI47
  have I85 : jI50 σ65 := jI50_fr ((f67 52 (by decide)).trans (f52 52 (by decide))) hI50
  have I86 : jI101 σ65 := jI101_fr (f68 4 (by decide)) (f68 5 (by decide)) (f67 56 (by decide)) (f67 57 (by decide)) (f67 58 (by decide)) (f67 59 (by decide)) I56
  have I87 : jI102 σ65 := jI102_fr (f68 6 (by decide)) (f67 60 (by decide)) (f67 61 (by decide)) I57
  have I88 : jI104 σ65 := jI104_fr (f68 10 (by decide)) (f68 12 (by decide)) (f68 13 (by decide)) (f67 62 (by decide)) (f67 67 (by decide)) I59
  have I89 : jI105 σ65 := jI105_fr (f68 15 (by decide)) (f67 65 (by decide)) I60
  have I90 : jI106 σ65 := jI106_fr (f68 32 (by decide)) (f67 70 (by decide)) (f67 71 (by decide)) (f67 72 (by decide)) I61
  have I91 : jI107 σ65 := jI107_fr ((f68 12 (by decide)).trans (congrFun (f52 55 (by decide)) 12)) ((f68 47 (by decide)).trans (congrFun (f52 55 (by decide)) 47)) ((f67 80 (by decide)).trans (f52 80 (by decide))) hI107
  have I92 : jI109 σ65 := jI109_fr ((f68 50 (by decide)).trans (congrFun (f52 55 (by decide)) 50)) hI109
  have I93 : jI110 σ65 := jI110_fr ((f67 86 (by decide)).trans (f52 86 (by decide))) ((f67 87 (by decide)).trans (f52 87 (by decide))) hI110
  have I94 : jI111 σ65 := jI111_fr ((f67 79 (by decide)).trans (f52 79 (by decide))) hI111
  have p95 : jBook σ65 := jBook.fr ((f68 47 (by decide)).trans (congrFun (f52 55 (by decide)) 47)) ((f68 10 (by decide)).trans (congrFun (f52 55 (by decide)) 10)) ((f67 81 (by decide)).trans (f52 81 (by decide))) hs_jBook
  have z96 : (σ65 2 0).toInt = (σ 2 0).toInt := (congrArg Int32.toInt (show σ65 2 0 = (σ 2 0) from ((congrFun (f67 2 (by decide)) 0).trans (congrFun (f52 2 (by decide)) 0))))
  have z97 : (σ65 55 6).toInt = (σ 55 6).toInt := (congrArg Int32.toInt (show σ65 55 6 = (σ 55 6) from ((f68 6 (by decide)).trans (congrFun (f52 55 (by decide)) 6))))
  have z98 : (σ65 2 2).toInt = (σ 2 2).toInt := (congrArg Int32.toInt (show σ65 2 2 = (σ 2 2) from ((congrFun (f67 2 (by decide)) 2).trans (congrFun (f52 2 (by decide)) 2))))
  have z99 : (σ65 55 5).toInt = (σ 55 5).toInt := (congrArg Int32.toInt (show σ65 55 5 = (σ 55 5) from ((f68 5 (by decide)).trans (congrFun (f52 55 (by decide)) 5))))
  have z100 : (σ65 2 3).toInt = (σ 2 3).toInt := (congrArg Int32.toInt (show σ65 2 3 = (σ 2 3) from ((congrFun (f67 2 (by decide)) 3).trans (congrFun (f52 2 (by decide)) 3))))
  have z101 : (σ65 55 4).toInt = (σ 55 4).toInt := (congrArg Int32.toInt (show σ65 55 4 = (σ 55 4) from ((f68 4 (by decide)).trans (congrFun (f52 55 (by decide)) 4))))
  have z102 : (σ65 9 0).toInt = (σ 9 0).toInt := (congrArg Int32.toInt (show σ65 9 0 = (σ 9 0) from ((congrFun (f67 9 (by decide)) 0).trans (congrFun (f52 9 (by decide)) 0))))
  have z103 : (σ65 55 15).toInt = (σ 55 15).toInt := (congrArg Int32.toInt (show σ65 55 15 = (σ 55 15) from ((f68 15 (by decide)).trans (congrFun (f52 55 (by decide)) 15))))
  have z104 : (σ65 16 0).toInt = (σ 16 0).toInt := (congrArg Int32.toInt (show σ65 16 0 = (σ 16 0) from ((congrFun (f67 16 (by decide)) 0).trans (congrFun (f52 16 (by decide)) 0))))
  have z105 : (σ65 55 10).toInt = (σ 55 10).toInt := (congrArg Int32.toInt (show σ65 55 10 = (σ 55 10) from ((f68 10 (by decide)).trans (congrFun (f52 55 (by decide)) 10))))
  have z106 : (σ65 16 1).toInt = (σ 16 1).toInt := (congrArg Int32.toInt (show σ65 16 1 = (σ 16 1) from ((congrFun (f67 16 (by decide)) 1).trans (congrFun (f52 16 (by decide)) 1))))
  have z107 : (σ65 55 12).toInt = (σ 55 12).toInt := (congrArg Int32.toInt (show σ65 55 12 = (σ 55 12) from ((f68 12 (by decide)).trans (congrFun (f52 55 (by decide)) 12))))
  have z108 : (σ65 16 2).toInt = (σ 16 2).toInt := (congrArg Int32.toInt (show σ65 16 2 = (σ 16 2) from ((congrFun (f67 16 (by decide)) 2).trans (congrFun (f52 16 (by decide)) 2))))
  have z109 : (σ65 55 13).toInt = (σ 55 13).toInt := (congrArg Int32.toInt (show σ65 55 13 = (σ 55 13) from ((f68 13 (by decide)).trans (congrFun (f52 55 (by decide)) 13))))
  have z110 : (σ65 38 0).toInt = (σ 38 0).toInt := (congrArg Int32.toInt (show σ65 38 0 = (σ 38 0) from ((congrFun (f67 38 (by decide)) 0).trans (congrFun (f52 38 (by decide)) 0))))
  have z111 : (σ65 55 32).toInt = (σ 55 32).toInt := (congrArg Int32.toInt (show σ65 55 32 = (σ 55 32) from ((f68 32 (by decide)).trans (congrFun (f52 55 (by decide)) 32))))
  have z112 : (σ65 47 0).toInt = (σ 47 0).toInt := (congrArg Int32.toInt (show σ65 47 0 = (σ 47 0) from ((congrFun (f67 47 (by decide)) 0).trans (congrFun (f52 47 (by decide)) 0))))
  have z113 : (σ65 55 47).toInt = (σ 55 47).toInt := (congrArg Int32.toInt (show σ65 55 47 = (σ 55 47) from ((f68 47 (by decide)).trans (congrFun (f52 55 (by decide)) 47))))
  have z114 : (σ65 55 30).toInt = (σ 55 30).toInt := (congrArg Int32.toInt (show σ65 55 30 = (σ 55 30) from ((f68 30 (by decide)).trans (congrFun (f52 55 (by decide)) 30))))
  have z115 : (σ65 55 31).toInt = (σ 55 31).toInt := (congrArg Int32.toInt (show σ65 55 31 = (σ 55 31) from ((f68 31 (by decide)).trans (congrFun (f52 55 (by decide)) 31))))
  exact ih x74 σ65 τ _ _ ls (by have h9 := tx74; omega) ⟨I75, I76, I77, I78, I79, I80, I81, I82, I83, I84, I85, I86, I87, I69, I88, I89, I90, I91, I92, I93, I94, I70, p71, p95, (by omega), (by omega), (by omega), (by omega), (by omega), (by omega), (by omega), (by omega), (by omega), (by omega), (by omega), (show jNumP (σ65 3) (σ65 56) (σ65 6) (σ65 57) (σ65 7) (σ65 58) (σ65 8) (σ65 59) (σ65 55 6).toInt (σ65 55 4).toInt by rw [show σ65 3 = σ 3 from ((f67 3 (by decide)).trans (f52 3 (by decide))), show σ65 56 = σ 56 from ((f67 56 (by decide)).trans (f52 56 (by decide))), show σ65 6 = σ 6 from ((f67 6 (by decide)).trans (f52 6 (by decide))), show σ65 57 = σ 57 from ((f67 57 (by decide)).trans (f52 57 (by decide))), show σ65 7 = σ 7 from ((f67 7 (by decide)).trans (f52 7 (by decide))), show σ65 58 = σ 58 from ((f67 58 (by decide)).trans (f52 58 (by decide))), show σ65 8 = σ 8 from ((f67 8 (by decide)).trans (f52 8 (by decide))), show σ65 59 = σ 59 from ((f67 59 (by decide)).trans (f52 59 (by decide))), show (σ65 55 6).toInt = (σ 55 6).toInt from by omega, show (σ65 55 4).toInt = (σ 55 4).toInt from by omega]; exact hr0), (show jOvP (σ65 56) (σ65 57) (σ65 58) (σ65 59) (σ65 55 4).toInt by rw [show σ65 56 = σ 56 from ((f67 56 (by decide)).trans (f52 56 (by decide))), show σ65 57 = σ 57 from ((f67 57 (by decide)).trans (f52 57 (by decide))), show σ65 58 = σ 58 from ((f67 58 (by decide)).trans (f52 58 (by decide))), show σ65 59 = σ 59 from ((f67 59 (by decide)).trans (f52 59 (by decide))), show (σ65 55 4).toInt = (σ 55 4).toInt from by omega]; exact hr1), (show jTp (σ65 10) (σ65 63) (σ65 55 15).toInt by rw [show σ65 10 = σ 10 from ((f67 10 (by decide)).trans (f52 10 (by decide))), show σ65 63 = σ 63 from ((f67 63 (by decide)).trans (f52 63 (by decide)))]; exact hr2.le (by omega)), (show jSo (σ65 17) (σ65 62) (σ65 16 0).toInt by rw [show σ65 17 = σ 17 from ((f67 17 (by decide)).trans (f52 17 (by decide))), show σ65 62 = σ 62 from ((f67 62 (by decide)).trans (f52 62 (by decide))), show (σ65 16 0).toInt = (σ 16 0).toInt from by omega]; exact hr3), (show jShP (σ65 51) (σ65 52) (σ65 53) (σ65 86) (σ65 87) (σ65 55 32).toInt by rw [show σ65 51 = σ 51 from ((f67 51 (by decide)).trans (f52 51 (by decide))), show σ65 52 = σ 52 from ((f67 52 (by decide)).trans (f52 52 (by decide))), show σ65 53 = σ 53 from ((f67 53 (by decide)).trans (f52 53 (by decide))), show σ65 86 = σ 86 from ((f67 86 (by decide)).trans (f52 86 (by decide))), show σ65 87 = σ 87 from ((f67 87 (by decide)).trans (f52 87 (by decide)))]; exact (hr4.up (by omega) (by omega))), (show jEl (σ65 51) (σ65 52) (τ 54) (τ 88) by rw [show σ65 51 = σ 51 from ((f67 51 (by decide)).trans (f52 51 (by decide))), show σ65 52 = σ 52 from ((f67 52 (by decide)).trans (f52 52 (by decide)))]; exact hr5), (show jByP (σ65 51) (σ65 52) (τ 54) by rw [show σ65 51 = σ 51 from ((f67 51 (by decide)).trans (f52 51 (by decide))), show σ65 52 = σ 52 from ((f67 52 (by decide)).trans (f52 52 (by decide)))]; exact hr6), (show jBk (σ65 48) (σ65 80) (σ65 49) (σ65 81) (σ65 55 47).toInt by rw [show σ65 48 = σ 48 from ((f67 48 (by decide)).trans (f52 48 (by decide))), show σ65 49 = σ 49 from ((f67 49 (by decide)).trans (f52 49 (by decide))), show σ65 80 = σ 80 from ((f67 80 (by decide)).trans (f52 80 (by decide))), show σ65 81 = σ 81 from ((f67 81 (by decide)).trans (f52 81 (by decide))), show (σ65 55 47).toInt = (σ 55 47).toInt from by omega]; exact hr7)⟩ hP hS (lv_sub hl [0, 1, 2, 3] rfl)
set_option maxHeartbeats 4000000 in
set_option maxRecDepth 100000 in
theorem law_case_16 {p : Program} {e : Env} {s : State} {m : MethodId} {below : List Frame} {meth : Method} {c : Code} (l : Launch) {b L : Nat} {xs : Nat → Int32} {D : va_G} {cI cL : ClassId} {ad zz : Nat → Nat} (C0 : lw_At p s m meth c b L xs) (hJ : jD ad) (hA : ∀ q, jA ad q → s.heap.size ≤ q) (hK : jK D cI cL s) (hZ : jZ zz (fun q : Nat => s.heap.size ≤ q) s s.heap) {x0 : Int32} (hx0 : 0 ≤ x0.toInt) (hxL : x0.toInt + 6 ≤ (L : Int)) (hL : L ≤ 384) {σ : Nat → Nat → Int32} {τ : Nat → Nat → Int64} {H : Heap} {locs : List Loc} (hS : va_S (fun q : Nat => s.heap.size ≤ q) s.heap H locs) {ls : Array Slot} (hAll : jAll σ τ) (hP : jH D cI cL ad σ τ H) (hl : lv_has ls 4 [(3, .int x0), (2, .ref (ad 55)), (1, .ref (ad 0)), (0, .ref b)]) (ih : ∀ (x1 : Int32) (σ : Nat → Nat → Int32) (τ : Nat → Nat → Int64) (H : Heap) (locs : List Loc) (ls : Array Slot), x1.toInt = x0.toInt + 6 → jAll σ τ → jH D cI cL ad σ τ H → va_S (fun q : Nat => s.heap.size ≤ q) s.heap H locs → lv_has ls 4 [(3, .int x1), (2, .ref (ad 55)), (1, .ref (ad 0)), (0, .ref b)] → W p l e room_1 s m #[Value.ref b] below meth c H locs 90 348600 (lw_Z below #[Value.ref b] s) (F0 m 18 ls [])) : W p l e room_1 s m #[Value.ref b] below meth c H locs 90 348600 (lw_Z below #[Value.ref b] s) (F0 m 694 ls []) := by
  obtain ⟨hx, hb, hr, hml, hown, hts0, hX, hbl, hlocks, hgv⟩ := C0
  have hts : ∀ w ∈ wsL_law, w.before #[Value.ref b] s = true := fun w h => hts0 w (wsL_law_in w h)
  have hbA : ¬ (fun q : Nat => s.heap.size ≤ q) b := Nat.not_le.mpr hbl
  have hown : s.vm.findClass RL = some m.cls := hown
  obtain ⟨hI2, hI9, hI12, hI16, hI18, hI22, hI31, hI38, hI43, hI47, hI50, hI101, hI102, hI103, hI104, hI105, hI106, hI107, hI109, hI110, hI111, hI119, hs_jKept, hs_jBook, ht0, ht1, ht2, ht3, ht4, ht5, ht6, ht7, ht8, ht9, ht10, hr0, hr1, hr2, hr3, hr4, hr5, hr6, hr7⟩ := hAll
  have hL9 : (L : Int) ≤ 384 := by omega
  obtain ⟨i1, i2, i3, i4, i5, w6⟩ : (0 ≤ (σ 2 0).toInt ∧ (σ 2 0).toInt ≤ 4) ∧ (0 ≤ (σ 2 1).toInt ∧ (σ 2 1).toInt ≤ 3) ∧ (0 ≤ (σ 2 2).toInt) ∧ (0 ≤ (σ 2 3).toInt) ∧ ((σ 2 2).toInt + (σ 2 3).toInt ≤ 40) ∧ (∀ k : Nat, k < 40 → 0 ≤ (σ 6 k).toInt ∧ (σ 6 k).toInt ≤ 67) := id hI2
  obtain ⟨i7, w8, w9⟩ : (0 ≤ (σ 9 0).toInt ∧ (σ 9 0).toInt ≤ 80) ∧ (∀ k : Nat, k < 80 → 0 ≤ (σ 10 k).toInt ∧ (σ 10 k).toInt ≤ 255) ∧ (∀ k : Nat, k < 8 → 0 ≤ (σ 11 k).toInt ∧ (σ 11 k).toInt ≤ 3) := id hI9
  obtain ⟨i10, i11, i12, w13⟩ : (1 ≤ (σ 16 0).toInt ∧ (σ 16 0).toInt ≤ 8) ∧ (1 ≤ (σ 16 1).toInt ∧ (σ 16 1).toInt ≤ 12) ∧ (0 ≤ (σ 16 2).toInt ∧ (σ 16 2).toInt ≤ 999) ∧ (∀ k : Nat, k < 8 → 0 ≤ (σ 17 k).toInt ∧ (σ 17 k).toInt ≤ 3) := id hI16
  obtain ⟨i14, i15, w16⟩ : (0 ≤ (σ 38 0).toInt ∧ (σ 38 0).toInt ≤ 20) ∧ (0 ≤ (σ 38 1).toInt ∧ (σ 38 1).toInt ≤ 1000) ∧ (∀ k : Nat, k < 20 → 0 ≤ (σ 39 k).toInt ∧ (σ 39 k).toInt ≤ 6) := id hI38
  obtain ⟨i17, w18, w19⟩ : (0 ≤ (σ 47 0).toInt ∧ (σ 47 0).toInt ≤ 12) ∧ (∀ k : Nat, k < 12 → 0 ≤ (σ 48 k).toInt ∧ (σ 48 k).toInt ≤ 3) ∧ (∀ k : Nat, k < 12 → 0 ≤ (σ 49 k).toInt ∧ (σ 49 k).toInt ≤ 1) := id hI47
  have w20 : ∀ k : Nat, k < 6 → 0 ≤ (σ 52 k).toInt ∧ (σ 52 k).toInt ≤ 60 := hI50
  obtain ⟨i21, i22, i23, w24, w25, w26, w27⟩ : (0 ≤ (σ 55 5).toInt) ∧ ((σ 55 5).toInt ≤ (σ 55 4).toInt) ∧ ((σ 55 4).toInt ≤ 40) ∧ (∀ k : Nat, k < 68 → (-200) ≤ (σ 56 k).toInt ∧ (σ 56 k).toInt ≤ 500) ∧ (∀ k : Nat, k < 40 → 0 ≤ (σ 57 k).toInt ∧ (σ 57 k).toInt ≤ 67) ∧ (∀ k : Nat, k < 40 → (-200) ≤ (σ 58 k).toInt ∧ (σ 58 k).toInt ≤ 500) ∧ (∀ k : Nat, k < 40 → (-200) ≤ (σ 59 k).toInt ∧ (σ 59 k).toInt ≤ 500) := id hI101
  obtain ⟨i28, w29, w30⟩ : (0 ≤ (σ 55 6).toInt ∧ (σ 55 6).toInt ≤ 4) ∧ (∀ k : Nat, k < 4 → 0 ≤ (σ 60 k).toInt ∧ (σ 60 k).toInt ≤ 50) ∧ (∀ k : Nat, k < 4 → 0 ≤ (σ 61 k).toInt ∧ (σ 61 k).toInt ≤ 20) := id hI102
  obtain ⟨i31, i32, i33, w34, w35⟩ : (1 ≤ (σ 55 10).toInt ∧ (σ 55 10).toInt ≤ 8) ∧ (1 ≤ (σ 55 12).toInt ∧ (σ 55 12).toInt ≤ 12) ∧ (0 ≤ (σ 55 13).toInt ∧ (σ 55 13).toInt ≤ 999) ∧ (∀ k : Nat, k < 8 → 0 ≤ (σ 62 k).toInt ∧ (σ 62 k).toInt ≤ 3) ∧ (∀ k : Nat, k < 8 → 0 ≤ (σ 67 k).toInt ∧ (σ 67 k).toInt ≤ 3) := id hI104
  obtain ⟨i36, w37⟩ : (0 ≤ (σ 55 15).toInt ∧ (σ 55 15).toInt ≤ 80) ∧ (∀ k : Nat, k < 2 → (-1) ≤ (σ 65 k).toInt ∧ (σ 65 k).toInt ≤ 80) := id hI105
  obtain ⟨i38, w39, w40, w41⟩ : (0 ≤ (σ 55 32).toInt ∧ (σ 55 32).toInt ≤ 20) ∧ (∀ k : Nat, k < 20 → 0 ≤ (σ 70 k).toInt ∧ (σ 70 k).toInt ≤ 6) ∧ (∀ k : Nat, k < 20 → 0 ≤ (σ 71 k).toInt ∧ (σ 71 k).toInt ≤ 8) ∧ (∀ k : Nat, k < 160 → 0 ≤ (σ 72 k).toInt ∧ (σ 72 k).toInt ≤ 3) := id hI106
  obtain ⟨i42, i43, w44⟩ : (0 ≤ (σ 55 47).toInt ∧ (σ 55 47).toInt ≤ 12) ∧ ((σ 55 47).toInt ≤ (σ 55 12).toInt) ∧ (∀ k : Nat, k < 12 → 0 ≤ (σ 80 k).toInt ∧ (σ 80 k).toInt ≤ 3) := id hI107
  refine lv_aload_n hx hb dL_law_694 rfl (lv_at hl 2 rfl) ?_
  refine lv_aload_n hx hb dL_law_695 rfl (lv_at hl 3 rfl) ?_
  refine lv_iload_n hx hb dL_law_696 rfl (lv_at hl 0 rfl) ?_
  refine lv_iconst (v := 1) hx hb dL_law_697 (by decide) ?_
  have g45 := jrg (rfl : x0.toInt = x0.toInt)
  refine lv_iadd hx hb dL_law_698 ?_
  refine lv_topi (fun x46 ex46 => ?_)
  have tx46 : x46.toInt = x0.toInt + 1 := (jadd ex46 rfl jz_1 (by omega) (by omega)).trans (by omega)
  refine va_sld hx hb hX hbl hbA hS (jin tx46 (by omega) (by omega)) dL_law_699 ?_
  have g47 := jrg (rfl : (xs x46.toNatClampNeg).toInt = (xs x46.toNatClampNeg).toInt)
  refine jcallV (As := [.int (xs x46.toNatClampNeg)]) (rest := []) ⟨hx, hb, hml, hown, hts⟩ hK hP hA hS hZ (c_X11_kept l D cI cL ad zz hJ σ τ (xs x46.toNatClampNeg) ((xs x46.toNatClampNeg).toInt) rfl hI2 hI16 hI22 hI31) cw_RL_81 (jc_0 cI cL ad σ τ) rfl ⟨Nat.le_of_ble_eq_true rfl, Nat.le_of_ble_eq_true rfl⟩ rfl rfl rfl hl.1 rfl (Nat.le_of_ble_eq_true rfl) dL_law_700 ⟨Nat.le_of_ble_eq_true rfl, Nat.le_of_ble_eq_true rfl⟩ (fun r49 σ48 τ48 H locs h48 hP hS => ?_)
  obtain ⟨rfl, f50, f51, I52, h48⟩ := h48
  refine lv_pop hx hb dL_law_703 rfl ?_
  refine lv_aload_n hx hb dL_law_704 rfl (lv_at hl 1 rfl) ?_
  refine lv_aload_n hx hb dL_law_705 rfl (lv_at hl 3 rfl) ?_
  refine lv_iload_n hx hb dL_law_706 rfl (lv_at hl 0 rfl) ?_
  refine lv_iconst (v := 1) hx hb dL_law_707 (by decide) ?_
  refine lv_iadd hx hb dL_law_708 ?_
  refine jtopr ex46.symm ?_
  refine va_sld hx hb hX hbl hbA hS (jin tx46 (by omega) (by omega)) dL_law_709 ?_
  have I54 : jI101 σ48 := jI101_fr (congrFun (f50 55 (by decide)) 4) (congrFun (f50 55 (by decide)) 5) (f50 56 (by decide)) (f50 57 (by decide)) (f50 58 (by decide)) (f50 59 (by decide)) hI101
  have I55 : jI102 σ48 := jI102_fr (congrFun (f50 55 (by decide)) 6) (f50 60 (by decide)) (f50 61 (by decide)) hI102
  have I56 : jI103 σ48 := jI103_fr (congrFun (f50 55 (by decide)) 9) hI103
  have I57 : jI104 σ48 := jI104_fr (congrFun (f50 55 (by decide)) 10) (congrFun (f50 55 (by decide)) 12) (congrFun (f50 55 (by decide)) 13) (f50 62 (by decide)) (f50 67 (by decide)) hI104
  have I58 : jI105 σ48 := jI105_fr (congrFun (f50 55 (by decide)) 15) (f50 65 (by decide)) hI105
  have I59 : jI106 σ48 := jI106_fr (congrFun (f50 55 (by decide)) 32) (f50 70 (by decide)) (f50 71 (by decide)) (f50 72 (by decide)) hI106
  have I60 : jI119 σ48 := jI119_fr (f50 68 (by decide)) hI119
  have p61 : jKept σ48 := jKept.fr (f50 75 (by decide)) (f50 76 (by decide)) (f50 77 (by decide)) hs_jKept
  refine jcallV (As := [.int (xs x46.toNatClampNeg)]) (rest := []) ⟨hx, hb, hml, hown, hts⟩ hK hP hA hS hZ (c_X12_kept l D cI cL ad zz hJ σ48 τ (xs x46.toNatClampNeg) ((xs x46.toNatClampNeg).toInt) rfl I54 I55 I56 I57 I58 I59 I60 p61) cw_RL_84 (jc_55 cI cL ad σ48 τ) rfl ⟨Nat.le_of_ble_eq_true rfl, Nat.le_of_ble_eq_true rfl⟩ rfl rfl rfl hl.1 rfl (Nat.le_of_ble_eq_true rfl) dL_law_710 ⟨Nat.le_of_ble_eq_true rfl, Nat.le_of_ble_eq_true rfl⟩ (fun r63 σ62 τ62 H locs h62 hP hS => ?_)
  obtain ⟨rfl, f64, f65, I66, p67, h62⟩ := h62
  refine lv_pop hx hb dL_law_713 rfl ?_
  refine lv_goto (tgt := 1357) hx hb dL_law_714 (by decide) ?_
  obtain ⟨x69, ex69⟩ : ∃ y : Int32, y = x0 + 6 := ⟨_, rfl⟩
  have tx69 : x69.toInt = x0.toInt + 6 := (jadd ex69 rfl jz_6 (by omega) (by omega)).trans (by omega)
  refine lv_iinc (v := x69) (lv' := [(3, .int x69), (2, .ref (ad 55)), (1, .ref (ad 0)), (0, .ref b)]) hx hb dL_law_1357 hl (k := 0) rfl (by rw [ex69]; rfl) (by decide) rfl (fun ls hl => ?_)
  refine lv_goto (tgt := 18) hx hb dL_law_1360 (by decide) ?_
  have I70 : jI2 σ62 := jI2_fr ((congrFun (f64 2 (by decide)) 0).trans (congrFun (f50 2 (by decide)) 0)) ((congrFun (f64 2 (by decide)) 1).trans (congrFun (f50 2 (by decide)) 1)) ((congrFun (f64 2 (by decide)) 2).trans (congrFun (f50 2 (by decide)) 2)) ((congrFun (f64 2 (by decide)) 3).trans (congrFun (f50 2 (by decide)) 3)) ((f64 6 (by decide)).trans (f50 6 (by decide))) hI2
  have I71 : jI9 σ62 := jI9_fr ((congrFun (f64 9 (by decide)) 0).trans (congrFun (f50 9 (by decide)) 0)) ((f64 10 (by decide)).trans (f50 10 (by decide))) ((f64 11 (by decide)).trans (f50 11 (by decide))) hI9
  have I72 : jI12 σ62 := jI12_fr ((congrFun (f64 12 (by decide)) 0).trans (congrFun (f50 12 (by decide)) 0)) ((f64 13 (by decide)).trans (f50 13 (by decide))) hI12
  have I73 : jI16 σ62 := jI16_fr ((congrFun (f64 16 (by decide)) 0).trans (congrFun (f50 16 (by decide)) 0)) ((congrFun (f64 16 (by decide)) 1).trans (congrFun (f50 16 (by decide)) 1)) ((congrFun (f64 16 (by decide)) 2).trans (congrFun (f50 16 (by decide)) 2)) ((f64 17 (by decide)).trans (f50 17 (by decide))) hI16
  have I74 : jI18 σ62 := jI18_fr ((congrFun (f64 18 (by decide)) 0).trans (congrFun (f50 18 (by decide)) 0)) ((f64 19 (by decide)).trans (f50 19 (by decide))) hI18
  have I75 : jI22 σ62 := jI22_fr ((congrFun (f64 22 (by decide)) 0).trans (congrFun (f50 22 (by decide)) 0)) ((f64 23 (by decide)).trans (f50 23 (by decide))) hI22
  have I76 : jI31 σ62 := jI31_fr (congrFun (f64 31 (by decide)) 8) (f64 33 (by decide)) (f64 36 (by decide)) I52
  have I77 : jI38 σ62 := jI38_fr ((congrFun (f64 38 (by decide)) 0).trans (congrFun (f50 38 (by decide)) 0)) ((congrFun (f64 38 (by decide)) 1).trans (congrFun (f50 38 (by decide)) 1)) ((f64 39 (by decide)).trans (f50 39 (by decide))) hI38
  have I78 : jI43 σ62 := jI43_fr ((congrFun (f64 43 (by decide)) 8).trans (congrFun (f50 43 (by decide)) 8)) hI43
  have I79 : jI47 σ62 := jI47_fr ((congrFun (f64 47 (by decide)) 0).trans (congrFun (f50 47 (by decide)) 0)) ((f64 48 (by decide)).trans (f50 48 (by decide))) ((f64 49 (by decide)).trans (f50 49 (by decide))) hI47
  have I80 : jI50 σ62 := jI50_fr ((f64 52 (by decide)).trans (f50 52 (by decide))) hI50
  have I81 : jI101 σ62 := jI101_fr (f65 4 (by decide)) (f65 5 (by decide)) (f64 56 (by decide)) (f64 57 (by decide)) (f64 58 (by decide)) (f64 59 (by decide)) I54
  have I82 : jI102 σ62 := jI102_fr (f65 6 (by decide)) (f64 60 (by decide)) (f64 61 (by decide)) I55
  have I83 : jI103 σ62 := jI103_fr (f65 9 (by decide)) I56
  have I84 : jI104 σ62 := jI104_fr (f65 10 (by decide)) (f65 12 (by decide)) (f65 13 (by decide)) (f64 62 (by decide)) (f64 67 (by decide)) I57
  have I85 : jI105 σ62 := jI105_fr (f65 15 (by decide)) (f64 65 (by decide)) I58
  have I86 : jI106 σ62 := jI106_fr (f65 32 (by decide)) (f64 70 (by decide)) (f64 71 (by decide)) (f64 72 (by decide)) I59
  have I87 : jI107 σ62 := jI107_fr ((f65 12 (by decide)).trans (congrFun (f50 55 (by decide)) 12)) ((f65 47 (by decide)).trans (congrFun (f50 55 (by decide)) 47)) ((f64 80 (by decide)).trans (f50 80 (by decide))) hI107
  have I88 : jI109 σ62 := jI109_fr ((f65 50 (by decide)).trans (congrFun (f50 55 (by decide)) 50)) hI109
  have I89 : jI110 σ62 := jI110_fr ((f64 86 (by decide)).trans (f50 86 (by decide))) ((f64 87 (by decide)).trans (f50 87 (by decide))) hI110
  have I90 : jI111 σ62 := jI111_fr ((f64 79 (by decide)).trans (f50 79 (by decide))) hI111
  have p91 : jBook σ62 := jBook.fr ((f65 47 (by decide)).trans (congrFun (f50 55 (by decide)) 47)) ((f65 10 (by decide)).trans (congrFun (f50 55 (by decide)) 10)) ((f64 81 (by decide)).trans (f50 81 (by decide))) hs_jBook
  have z92 : (σ62 2 0).toInt = (σ 2 0).toInt := (congrArg Int32.toInt (show σ62 2 0 = (σ 2 0) from ((congrFun (f64 2 (by decide)) 0).trans (congrFun (f50 2 (by decide)) 0))))
  have z93 : (σ62 55 6).toInt = (σ 55 6).toInt := (congrArg Int32.toInt (show σ62 55 6 = (σ 55 6) from ((f65 6 (by decide)).trans (congrFun (f50 55 (by decide)) 6))))
  have z94 : (σ62 2 2).toInt = (σ 2 2).toInt := (congrArg Int32.toInt (show σ62 2 2 = (σ 2 2) from ((congrFun (f64 2 (by decide)) 2).trans (congrFun (f50 2 (by decide)) 2))))
  have z95 : (σ62 55 5).toInt = (σ 55 5).toInt := (congrArg Int32.toInt (show σ62 55 5 = (σ 55 5) from ((f65 5 (by decide)).trans (congrFun (f50 55 (by decide)) 5))))
  have z96 : (σ62 2 3).toInt = (σ 2 3).toInt := (congrArg Int32.toInt (show σ62 2 3 = (σ 2 3) from ((congrFun (f64 2 (by decide)) 3).trans (congrFun (f50 2 (by decide)) 3))))
  have z97 : (σ62 55 4).toInt = (σ 55 4).toInt := (congrArg Int32.toInt (show σ62 55 4 = (σ 55 4) from ((f65 4 (by decide)).trans (congrFun (f50 55 (by decide)) 4))))
  have z98 : (σ62 9 0).toInt = (σ 9 0).toInt := (congrArg Int32.toInt (show σ62 9 0 = (σ 9 0) from ((congrFun (f64 9 (by decide)) 0).trans (congrFun (f50 9 (by decide)) 0))))
  have z99 : (σ62 55 15).toInt = (σ 55 15).toInt := (congrArg Int32.toInt (show σ62 55 15 = (σ 55 15) from ((f65 15 (by decide)).trans (congrFun (f50 55 (by decide)) 15))))
  have z100 : (σ62 16 0).toInt = (σ 16 0).toInt := (congrArg Int32.toInt (show σ62 16 0 = (σ 16 0) from ((congrFun (f64 16 (by decide)) 0).trans (congrFun (f50 16 (by decide)) 0))))
  have z101 : (σ62 55 10).toInt = (σ 55 10).toInt := (congrArg Int32.toInt (show σ62 55 10 = (σ 55 10) from ((f65 10 (by decide)).trans (congrFun (f50 55 (by decide)) 10))))
  have z102 : (σ62 16 1).toInt = (σ 16 1).toInt := (congrArg Int32.toInt (show σ62 16 1 = (σ 16 1) from ((congrFun (f64 16 (by decide)) 1).trans (congrFun (f50 16 (by decide)) 1))))
  have z103 : (σ62 55 12).toInt = (σ 55 12).toInt := (congrArg Int32.toInt (show σ62 55 12 = (σ 55 12) from ((f65 12 (by decide)).trans (congrFun (f50 55 (by decide)) 12))))
  have z104 : (σ62 16 2).toInt = (σ 16 2).toInt := (congrArg Int32.toInt (show σ62 16 2 = (σ 16 2) from ((congrFun (f64 16 (by decide)) 2).trans (congrFun (f50 16 (by decide)) 2))))
  have z105 : (σ62 55 13).toInt = (σ 55 13).toInt := (congrArg Int32.toInt (show σ62 55 13 = (σ 55 13) from ((f65 13 (by decide)).trans (congrFun (f50 55 (by decide)) 13))))
  have z106 : (σ62 38 0).toInt = (σ 38 0).toInt := (congrArg Int32.toInt (show σ62 38 0 = (σ 38 0) from ((congrFun (f64 38 (by decide)) 0).trans (congrFun (f50 38 (by decide)) 0))))
  have z107 : (σ62 55 32).toInt = (σ 55 32).toInt := (congrArg Int32.toInt (show σ62 55 32 = (σ 55 32) from ((f65 32 (by decide)).trans (congrFun (f50 55 (by decide)) 32))))
  have z108 : (σ62 47 0).toInt = (σ 47 0).toInt := (congrArg Int32.toInt (show σ62 47 0 = (σ 47 0) from ((congrFun (f64 47 (by decide)) 0).trans (congrFun (f50 47 (by decide)) 0))))
  have z109 : (σ62 55 47).toInt = (σ 55 47).toInt := (congrArg Int32.toInt (show σ62 55 47 = (σ 55 47) from ((f65 47 (by decide)).trans (congrFun (f50 55 (by decide)) 47))))
  have z110 : (σ62 55 30).toInt = (σ 55 30).toInt := (congrArg Int32.toInt (show σ62 55 30 = (σ 55 30) from ((f65 30 (by decide)).trans (congrFun (f50 55 (by decide)) 30))))
  have z111 : (σ62 55 31).toInt = (σ 55 31).toInt := (congrArg Int32.toInt (show σ62 55 31 = (σ 55 31) from ((f65 31 (by decide)).trans (congrFun (f50 55 (by decide)) 31))))
  exact ih x69 σ62 τ _ _ ls (by have h9 := tx69; omega) ⟨I70, I71, I72, I73, I74, I75, I76, I77, I78, I79, I80, I81, I82, I83, I84, I85, I86, I87, I88, I89, I90, I66, p67, p91, (by omega), (by omega), (by omega), (by omega), (by omega), (by omega), (by omega), (by omega), (by omega), (by omega), (by omega), (show jNumP (σ62 3) (σ62 56) (σ62 6) (σ62 57) (σ62 7) (σ62 58) (σ62 8) (σ62 59) (σ62 55 6).toInt (σ62 55 4).toInt by rw [show σ62 3 = σ 3 from ((f64 3 (by decide)).trans (f50 3 (by decide))), show σ62 56 = σ 56 from ((f64 56 (by decide)).trans (f50 56 (by decide))), show σ62 6 = σ 6 from ((f64 6 (by decide)).trans (f50 6 (by decide))), show σ62 57 = σ 57 from ((f64 57 (by decide)).trans (f50 57 (by decide))), show σ62 7 = σ 7 from ((f64 7 (by decide)).trans (f50 7 (by decide))), show σ62 58 = σ 58 from ((f64 58 (by decide)).trans (f50 58 (by decide))), show σ62 8 = σ 8 from ((f64 8 (by decide)).trans (f50 8 (by decide))), show σ62 59 = σ 59 from ((f64 59 (by decide)).trans (f50 59 (by decide))), show (σ62 55 6).toInt = (σ 55 6).toInt from by omega, show (σ62 55 4).toInt = (σ 55 4).toInt from by omega]; exact hr0), (show jOvP (σ62 56) (σ62 57) (σ62 58) (σ62 59) (σ62 55 4).toInt by rw [show σ62 56 = σ 56 from ((f64 56 (by decide)).trans (f50 56 (by decide))), show σ62 57 = σ 57 from ((f64 57 (by decide)).trans (f50 57 (by decide))), show σ62 58 = σ 58 from ((f64 58 (by decide)).trans (f50 58 (by decide))), show σ62 59 = σ 59 from ((f64 59 (by decide)).trans (f50 59 (by decide))), show (σ62 55 4).toInt = (σ 55 4).toInt from by omega]; exact hr1), (show jTp (σ62 10) (σ62 63) (σ62 55 15).toInt by rw [show σ62 10 = σ 10 from ((f64 10 (by decide)).trans (f50 10 (by decide))), show σ62 63 = σ 63 from ((f64 63 (by decide)).trans (f50 63 (by decide)))]; exact hr2.le (by omega)), (show jSo (σ62 17) (σ62 62) (σ62 16 0).toInt by rw [show σ62 17 = σ 17 from ((f64 17 (by decide)).trans (f50 17 (by decide))), show σ62 62 = σ 62 from ((f64 62 (by decide)).trans (f50 62 (by decide))), show (σ62 16 0).toInt = (σ 16 0).toInt from by omega]; exact hr3), (show jShP (σ62 51) (σ62 52) (σ62 53) (σ62 86) (σ62 87) (σ62 55 32).toInt by rw [show σ62 51 = σ 51 from ((f64 51 (by decide)).trans (f50 51 (by decide))), show σ62 52 = σ 52 from ((f64 52 (by decide)).trans (f50 52 (by decide))), show σ62 53 = σ 53 from ((f64 53 (by decide)).trans (f50 53 (by decide))), show σ62 86 = σ 86 from ((f64 86 (by decide)).trans (f50 86 (by decide))), show σ62 87 = σ 87 from ((f64 87 (by decide)).trans (f50 87 (by decide)))]; exact (hr4.up (by omega) (by omega))), (show jEl (σ62 51) (σ62 52) (τ 54) (τ 88) by rw [show σ62 51 = σ 51 from ((f64 51 (by decide)).trans (f50 51 (by decide))), show σ62 52 = σ 52 from ((f64 52 (by decide)).trans (f50 52 (by decide)))]; exact hr5), (show jByP (σ62 51) (σ62 52) (τ 54) by rw [show σ62 51 = σ 51 from ((f64 51 (by decide)).trans (f50 51 (by decide))), show σ62 52 = σ 52 from ((f64 52 (by decide)).trans (f50 52 (by decide)))]; exact hr6), (show jBk (σ62 48) (σ62 80) (σ62 49) (σ62 81) (σ62 55 47).toInt by rw [show σ62 48 = σ 48 from ((f64 48 (by decide)).trans (f50 48 (by decide))), show σ62 49 = σ 49 from ((f64 49 (by decide)).trans (f50 49 (by decide))), show σ62 80 = σ 80 from ((f64 80 (by decide)).trans (f50 80 (by decide))), show σ62 81 = σ 81 from ((f64 81 (by decide)).trans (f50 81 (by decide))), show (σ62 55 47).toInt = (σ 55 47).toInt from by omega]; exact hr7)⟩ hP hS (lv_sub hl [0, 1, 2, 3] rfl)
set_option maxHeartbeats 4000000 in
set_option maxRecDepth 100000 in
theorem law_case_17 {p : Program} {e : Env} {s : State} {m : MethodId} {below : List Frame} {meth : Method} {c : Code} (l : Launch) {b L : Nat} {xs : Nat → Int32} {D : va_G} {cI cL : ClassId} {ad zz : Nat → Nat} (C0 : lw_At p s m meth c b L xs) (hJ : jD ad) (hA : ∀ q, jA ad q → s.heap.size ≤ q) (hK : jK D cI cL s) (hZ : jZ zz (fun q : Nat => s.heap.size ≤ q) s s.heap) {x0 : Int32} (hx0 : 0 ≤ x0.toInt) (hxL : x0.toInt + 6 ≤ (L : Int)) (hL : L ≤ 384) {σ : Nat → Nat → Int32} {τ : Nat → Nat → Int64} {H : Heap} {locs : List Loc} (hS : va_S (fun q : Nat => s.heap.size ≤ q) s.heap H locs) {ls : Array Slot} (hAll : jAll σ τ) (hP : jH D cI cL ad σ τ H) (hl : lv_has ls 4 [(3, .int x0), (2, .ref (ad 55)), (1, .ref (ad 0)), (0, .ref b)]) (ih : ∀ (x1 : Int32) (σ : Nat → Nat → Int32) (τ : Nat → Nat → Int64) (H : Heap) (locs : List Loc) (ls : Array Slot), x1.toInt = x0.toInt + 6 → jAll σ τ → jH D cI cL ad σ τ H → va_S (fun q : Nat => s.heap.size ≤ q) s.heap H locs → lv_has ls 4 [(3, .int x1), (2, .ref (ad 55)), (1, .ref (ad 0)), (0, .ref b)] → W p l e room_1 s m #[Value.ref b] below meth c H locs 90 348600 (lw_Z below #[Value.ref b] s) (F0 m 18 ls [])) : W p l e room_1 s m #[Value.ref b] below meth c H locs 90 348600 (lw_Z below #[Value.ref b] s) (F0 m 717 ls []) := by
  obtain ⟨hx, hb, hr, hml, hown, hts0, hX, hbl, hlocks, hgv⟩ := C0
  have hts : ∀ w ∈ wsL_law, w.before #[Value.ref b] s = true := fun w h => hts0 w (wsL_law_in w h)
  have hbA : ¬ (fun q : Nat => s.heap.size ≤ q) b := Nat.not_le.mpr hbl
  have hown : s.vm.findClass RL = some m.cls := hown
  obtain ⟨hI2, hI9, hI12, hI16, hI18, hI22, hI31, hI38, hI43, hI47, hI50, hI101, hI102, hI103, hI104, hI105, hI106, hI107, hI109, hI110, hI111, hI119, hs_jKept, hs_jBook, ht0, ht1, ht2, ht3, ht4, ht5, ht6, ht7, ht8, ht9, ht10, hr0, hr1, hr2, hr3, hr4, hr5, hr6, hr7⟩ := hAll
  have hL9 : (L : Int) ≤ 384 := by omega
  obtain ⟨i1, i2, i3, i4, i5, w6⟩ : (0 ≤ (σ 2 0).toInt ∧ (σ 2 0).toInt ≤ 4) ∧ (0 ≤ (σ 2 1).toInt ∧ (σ 2 1).toInt ≤ 3) ∧ (0 ≤ (σ 2 2).toInt) ∧ (0 ≤ (σ 2 3).toInt) ∧ ((σ 2 2).toInt + (σ 2 3).toInt ≤ 40) ∧ (∀ k : Nat, k < 40 → 0 ≤ (σ 6 k).toInt ∧ (σ 6 k).toInt ≤ 67) := id hI2
  obtain ⟨i7, w8, w9⟩ : (0 ≤ (σ 9 0).toInt ∧ (σ 9 0).toInt ≤ 80) ∧ (∀ k : Nat, k < 80 → 0 ≤ (σ 10 k).toInt ∧ (σ 10 k).toInt ≤ 255) ∧ (∀ k : Nat, k < 8 → 0 ≤ (σ 11 k).toInt ∧ (σ 11 k).toInt ≤ 3) := id hI9
  obtain ⟨i10, i11, i12, w13⟩ : (1 ≤ (σ 16 0).toInt ∧ (σ 16 0).toInt ≤ 8) ∧ (1 ≤ (σ 16 1).toInt ∧ (σ 16 1).toInt ≤ 12) ∧ (0 ≤ (σ 16 2).toInt ∧ (σ 16 2).toInt ≤ 999) ∧ (∀ k : Nat, k < 8 → 0 ≤ (σ 17 k).toInt ∧ (σ 17 k).toInt ≤ 3) := id hI16
  obtain ⟨i14, i15, w16⟩ : (0 ≤ (σ 38 0).toInt ∧ (σ 38 0).toInt ≤ 20) ∧ (0 ≤ (σ 38 1).toInt ∧ (σ 38 1).toInt ≤ 1000) ∧ (∀ k : Nat, k < 20 → 0 ≤ (σ 39 k).toInt ∧ (σ 39 k).toInt ≤ 6) := id hI38
  obtain ⟨i17, w18, w19⟩ : (0 ≤ (σ 47 0).toInt ∧ (σ 47 0).toInt ≤ 12) ∧ (∀ k : Nat, k < 12 → 0 ≤ (σ 48 k).toInt ∧ (σ 48 k).toInt ≤ 3) ∧ (∀ k : Nat, k < 12 → 0 ≤ (σ 49 k).toInt ∧ (σ 49 k).toInt ≤ 1) := id hI47
  have w20 : ∀ k : Nat, k < 6 → 0 ≤ (σ 52 k).toInt ∧ (σ 52 k).toInt ≤ 60 := hI50
  obtain ⟨i21, i22, i23, w24, w25, w26, w27⟩ : (0 ≤ (σ 55 5).toInt) ∧ ((σ 55 5).toInt ≤ (σ 55 4).toInt) ∧ ((σ 55 4).toInt ≤ 40) ∧ (∀ k : Nat, k < 68 → (-200) ≤ (σ 56 k).toInt ∧ (σ 56 k).toInt ≤ 500) ∧ (∀ k : Nat, k < 40 → 0 ≤ (σ 57 k).toInt ∧ (σ 57 k).toInt ≤ 67) ∧ (∀ k : Nat, k < 40 → (-200) ≤ (σ 58 k).toInt ∧ (σ 58 k).toInt ≤ 500) ∧ (∀ k : Nat, k < 40 → (-200) ≤ (σ 59 k).toInt ∧ (σ 59 k).toInt ≤ 500) := id hI101
  obtain ⟨i28, w29, w30⟩ : (0 ≤ (σ 55 6).toInt ∧ (σ 55 6).toInt ≤ 4) ∧ (∀ k : Nat, k < 4 → 0 ≤ (σ 60 k).toInt ∧ (σ 60 k).toInt ≤ 50) ∧ (∀ k : Nat, k < 4 → 0 ≤ (σ 61 k).toInt ∧ (σ 61 k).toInt ≤ 20) := id hI102
  obtain ⟨i31, i32, i33, w34, w35⟩ : (1 ≤ (σ 55 10).toInt ∧ (σ 55 10).toInt ≤ 8) ∧ (1 ≤ (σ 55 12).toInt ∧ (σ 55 12).toInt ≤ 12) ∧ (0 ≤ (σ 55 13).toInt ∧ (σ 55 13).toInt ≤ 999) ∧ (∀ k : Nat, k < 8 → 0 ≤ (σ 62 k).toInt ∧ (σ 62 k).toInt ≤ 3) ∧ (∀ k : Nat, k < 8 → 0 ≤ (σ 67 k).toInt ∧ (σ 67 k).toInt ≤ 3) := id hI104
  obtain ⟨i36, w37⟩ : (0 ≤ (σ 55 15).toInt ∧ (σ 55 15).toInt ≤ 80) ∧ (∀ k : Nat, k < 2 → (-1) ≤ (σ 65 k).toInt ∧ (σ 65 k).toInt ≤ 80) := id hI105
  obtain ⟨i38, w39, w40, w41⟩ : (0 ≤ (σ 55 32).toInt ∧ (σ 55 32).toInt ≤ 20) ∧ (∀ k : Nat, k < 20 → 0 ≤ (σ 70 k).toInt ∧ (σ 70 k).toInt ≤ 6) ∧ (∀ k : Nat, k < 20 → 0 ≤ (σ 71 k).toInt ∧ (σ 71 k).toInt ≤ 8) ∧ (∀ k : Nat, k < 160 → 0 ≤ (σ 72 k).toInt ∧ (σ 72 k).toInt ≤ 3) := id hI106
  obtain ⟨i42, i43, w44⟩ : (0 ≤ (σ 55 47).toInt ∧ (σ 55 47).toInt ≤ 12) ∧ ((σ 55 47).toInt ≤ (σ 55 12).toInt) ∧ (∀ k : Nat, k < 12 → 0 ≤ (σ 80 k).toInt ∧ (σ 80 k).toInt ≤ 3) := id hI107
  refine lv_aload_n hx hb dL_law_717 rfl (lv_at hl 2 rfl) ?_
  refine lv_aload_n hx hb dL_law_718 rfl (lv_at hl 3 rfl) ?_
  refine lv_iload_n hx hb dL_law_719 rfl (lv_at hl 0 rfl) ?_
  refine lv_iconst (v := 1) hx hb dL_law_720 (by decide) ?_
  have g45 := jrg (rfl : x0.toInt = x0.toInt)
  refine lv_iadd hx hb dL_law_721 ?_
  refine lv_topi (fun x46 ex46 => ?_)
  have tx46 : x46.toInt = x0.toInt + 1 := (jadd ex46 rfl jz_1 (by omega) (by omega)).trans (by omega)
  refine va_sld hx hb hX hbl hbA hS (jin tx46 (by omega) (by omega)) dL_law_722 ?_
  have g47 := jrg (rfl : (xs x46.toNatClampNeg).toInt = (xs x46.toNatClampNeg).toInt)
  refine jcallV (As := [.int (xs x46.toNatClampNeg)]) (rest := []) ⟨hx, hb, hml, hown, hts⟩ hK hP hA hS hZ (c_X11_theirs l D cI cL ad zz hJ σ τ (xs x46.toNatClampNeg) ((xs x46.toNatClampNeg).toInt) rfl hI2 hI16 hI22 hI31) cw_RL_85 (jc_0 cI cL ad σ τ) rfl ⟨Nat.le_of_ble_eq_true rfl, Nat.le_of_ble_eq_true rfl⟩ rfl rfl rfl hl.1 rfl (Nat.le_of_ble_eq_true rfl) dL_law_723 ⟨Nat.le_of_ble_eq_true rfl, Nat.le_of_ble_eq_true rfl⟩ (fun r49 σ48 τ48 H locs h48 hP hS => ?_)
  obtain ⟨rfl, f50, f51, I52, h48⟩ := h48
  refine lv_pop hx hb dL_law_726 rfl ?_
  refine lv_aload_n hx hb dL_law_727 rfl (lv_at hl 1 rfl) ?_
  refine lv_aload_n hx hb dL_law_728 rfl (lv_at hl 3 rfl) ?_
  refine lv_iload_n hx hb dL_law_729 rfl (lv_at hl 0 rfl) ?_
  refine lv_iconst (v := 1) hx hb dL_law_730 (by decide) ?_
  refine lv_iadd hx hb dL_law_731 ?_
  refine jtopr ex46.symm ?_
  refine va_sld hx hb hX hbl hbA hS (jin tx46 (by omega) (by omega)) dL_law_732 ?_
  have I54 : jI101 σ48 := jI101_fr (congrFun (f50 55 (by decide)) 4) (congrFun (f50 55 (by decide)) 5) (f50 56 (by decide)) (f50 57 (by decide)) (f50 58 (by decide)) (f50 59 (by decide)) hI101
  have I55 : jI102 σ48 := jI102_fr (congrFun (f50 55 (by decide)) 6) (f50 60 (by decide)) (f50 61 (by decide)) hI102
  have I56 : jI103 σ48 := jI103_fr (congrFun (f50 55 (by decide)) 9) hI103
  have I57 : jI104 σ48 := jI104_fr (congrFun (f50 55 (by decide)) 10) (congrFun (f50 55 (by decide)) 12) (congrFun (f50 55 (by decide)) 13) (f50 62 (by decide)) (f50 67 (by decide)) hI104
  have I58 : jI105 σ48 := jI105_fr (congrFun (f50 55 (by decide)) 15) (f50 65 (by decide)) hI105
  have I59 : jI106 σ48 := jI106_fr (congrFun (f50 55 (by decide)) 32) (f50 70 (by decide)) (f50 71 (by decide)) (f50 72 (by decide)) hI106
  have I60 : jI119 σ48 := jI119_fr (f50 68 (by decide)) hI119
  have I61 : jI111 σ48 := jI111_fr (f50 79 (by decide)) hI111
  have p62 : jKept σ48 := jKept.fr (f50 75 (by decide)) (f50 76 (by decide)) (f50 77 (by decide)) hs_jKept
  refine jcallV (As := [.int (xs x46.toNatClampNeg)]) (rest := []) ⟨hx, hb, hml, hown, hts⟩ hK hP hA hS hZ (c_X12_theirs l D cI cL ad zz hJ σ48 τ (xs x46.toNatClampNeg) ((xs x46.toNatClampNeg).toInt) rfl I54 I55 I56 I57 I58 I59 I60 I61 p62) cw_RL_88 (jc_55 cI cL ad σ48 τ) rfl ⟨Nat.le_of_ble_eq_true rfl, Nat.le_of_ble_eq_true rfl⟩ rfl rfl rfl hl.1 rfl (Nat.le_of_ble_eq_true rfl) dL_law_733 ⟨Nat.le_of_ble_eq_true rfl, Nat.le_of_ble_eq_true rfl⟩ (fun r64 σ63 τ63 H locs h63 hP hS => ?_)
  obtain ⟨rfl, f65, f66, I67, I68, I69, p70, w71, h63⟩ := h63
  obtain ⟨i73, i74, i75, w76, w77⟩ : (1 ≤ (σ63 55 10).toInt ∧ (σ63 55 10).toInt ≤ 8) ∧ (1 ≤ (σ63 55 12).toInt ∧ (σ63 55 12).toInt ≤ 12) ∧ (0 ≤ (σ63 55 13).toInt ∧ (σ63 55 13).toInt ≤ 999) ∧ (∀ k : Nat, k < 8 → 0 ≤ (σ63 62 k).toInt ∧ (σ63 62 k).toInt ≤ 3) ∧ (∀ k : Nat, k < 8 → 0 ≤ (σ63 67 k).toInt ∧ (σ63 67 k).toInt ≤ 3) := id I67
  have z78 : (σ63 55 10).toInt = (σ 55 10).toInt := (congrArg Int32.toInt (show σ63 55 10 = (σ 55 10) from ((f66 10 (by decide)).trans (congrFun (f50 55 (by decide)) 10))))
  have z79 : (σ63 55 12).toInt = (σ 55 12).toInt := (congrArg Int32.toInt (show σ63 55 12 = (σ 55 12) from ((f66 12 (by decide)).trans (congrFun (f50 55 (by decide)) 12))))
  have z80 : (σ63 55 13).toInt = (σ 55 13).toInt := (congrArg Int32.toInt (show σ63 55 13 = (σ 55 13) from ((f66 13 (by decide)).trans (congrFun (f50 55 (by decide)) 13))))
  refine lv_pop hx hb dL_law_736 rfl ?_
  refine lv_goto (tgt := 1357) hx hb dL_law_737 (by decide) ?_
  obtain ⟨x81, ex81⟩ : ∃ y : Int32, y = x0 + 6 := ⟨_, rfl⟩
  have tx81 : x81.toInt = x0.toInt + 6 := (jadd ex81 rfl jz_6 (by omega) (by omega)).trans (by omega)
  refine lv_iinc (v := x81) (lv' := [(3, .int x81), (2, .ref (ad 55)), (1, .ref (ad 0)), (0, .ref b)]) hx hb dL_law_1357 hl (k := 0) rfl (by rw [ex81]; rfl) (by decide) rfl (fun ls hl => ?_)
  refine lv_goto (tgt := 18) hx hb dL_law_1360 (by decide) ?_
  have I82 : jI2 σ63 := jI2_fr ((congrFun (f65 2 (by decide)) 0).trans (congrFun (f50 2 (by decide)) 0)) ((congrFun (f65 2 (by decide)) 1).trans (congrFun (f50 2 (by decide)) 1)) ((congrFun (f65 2 (by decide)) 2).trans (congrFun (f50 2 (by decide)) 2)) ((congrFun (f65 2 (by decide)) 3).trans (congrFun (f50 2 (by decide)) 3)) ((f65 6 (by decide)).trans (f50 6 (by decide))) hI2
  have I83 : jI9 σ63 := jI9_fr ((congrFun (f65 9 (by decide)) 0).trans (congrFun (f50 9 (by decide)) 0)) ((f65 10 (by decide)).trans (f50 10 (by decide))) ((f65 11 (by decide)).trans (f50 11 (by decide))) hI9
  have I84 : jI12 σ63 := jI12_fr ((congrFun (f65 12 (by decide)) 0).trans (congrFun (f50 12 (by decide)) 0)) ((f65 13 (by decide)).trans (f50 13 (by decide))) hI12
  have I85 : jI16 σ63 := jI16_fr ((congrFun (f65 16 (by decide)) 0).trans (congrFun (f50 16 (by decide)) 0)) ((congrFun (f65 16 (by decide)) 1).trans (congrFun (f50 16 (by decide)) 1)) ((congrFun (f65 16 (by decide)) 2).trans (congrFun (f50 16 (by decide)) 2)) ((f65 17 (by decide)).trans (f50 17 (by decide))) hI16
  have I86 : jI18 σ63 := jI18_fr ((congrFun (f65 18 (by decide)) 0).trans (congrFun (f50 18 (by decide)) 0)) ((f65 19 (by decide)).trans (f50 19 (by decide))) hI18
  have I87 : jI22 σ63 := jI22_fr ((congrFun (f65 22 (by decide)) 0).trans (congrFun (f50 22 (by decide)) 0)) ((f65 23 (by decide)).trans (f50 23 (by decide))) hI22
  have I88 : jI31 σ63 := jI31_fr (congrFun (f65 31 (by decide)) 8) (f65 33 (by decide)) (f65 36 (by decide)) I52
  have I89 : jI38 σ63 := jI38_fr ((congrFun (f65 38 (by decide)) 0).trans (congrFun (f50 38 (by decide)) 0)) ((congrFun (f65 38 (by decide)) 1).trans (congrFun (f50 38 (by decide)) 1)) ((f65 39 (by decide)).trans (f50 39 (by decide))) hI38
  have I90 : jI43 σ63 := jI43_fr ((congrFun (f65 43 (by decide)) 8).trans (congrFun (f50 43 (by decide)) 8)) hI43
  have I91 : jI47 σ63 := jI47_fr ((congrFun (f65 47 (by decide)) 0).trans (congrFun (f50 47 (by decide)) 0)) ((f65 48 (by decide)).trans (f50 48 (by decide))) ((f65 49 (by decide)).trans (f50 49 (by decide))) hI47
  have I92 : jI50 σ63 := jI50_fr ((f65 52 (by decide)).trans (f50 52 (by decide))) hI50
  have I93 : jI101 σ63 := jI101_fr (f66 4 (by decide)) (f66 5 (by decide)) (f65 56 (by decide)) (f65 57 (by decide)) (f65 58 (by decide)) (f65 59 (by decide)) I54
  have I94 : jI102 σ63 := jI102_fr (f66 6 (by decide)) (f65 60 (by decide)) (f65 61 (by decide)) I55
  have I95 : jI103 σ63 := jI103_fr (f66 9 (by decide)) I56
  have I96 : jI105 σ63 := jI105_fr (f66 15 (by decide)) (f65 65 (by decide)) I58
  have I97 : jI106 σ63 := jI106_fr (f66 32 (by decide)) (f65 70 (by decide)) (f65 71 (by decide)) (f65 72 (by decide)) I59
  have I98 : jI107 σ63 := jI107_fr ((f66 12 (by decide)).trans (congrFun (f50 55 (by decide)) 12)) ((f66 47 (by decide)).trans (congrFun (f50 55 (by decide)) 47)) ((f65 80 (by decide)).trans (f50 80 (by decide))) hI107
  have I99 : jI109 σ63 := jI109_fr ((f66 50 (by decide)).trans (congrFun (f50 55 (by decide)) 50)) hI109
  have I100 : jI110 σ63 := jI110_fr ((f65 86 (by decide)).trans (f50 86 (by decide))) ((f65 87 (by decide)).trans (f50 87 (by decide))) hI110
  have p101 : jBook σ63 := jBook.fr ((f66 47 (by decide)).trans (congrFun (f50 55 (by decide)) 47)) ((f66 10 (by decide)).trans (congrFun (f50 55 (by decide)) 10)) ((f65 81 (by decide)).trans (f50 81 (by decide))) hs_jBook
  have z102 : (σ63 2 0).toInt = (σ 2 0).toInt := (congrArg Int32.toInt (show σ63 2 0 = (σ 2 0) from ((congrFun (f65 2 (by decide)) 0).trans (congrFun (f50 2 (by decide)) 0))))
  have z103 : (σ63 55 6).toInt = (σ 55 6).toInt := (congrArg Int32.toInt (show σ63 55 6 = (σ 55 6) from ((f66 6 (by decide)).trans (congrFun (f50 55 (by decide)) 6))))
  have z104 : (σ63 2 2).toInt = (σ 2 2).toInt := (congrArg Int32.toInt (show σ63 2 2 = (σ 2 2) from ((congrFun (f65 2 (by decide)) 2).trans (congrFun (f50 2 (by decide)) 2))))
  have z105 : (σ63 55 5).toInt = (σ 55 5).toInt := (congrArg Int32.toInt (show σ63 55 5 = (σ 55 5) from ((f66 5 (by decide)).trans (congrFun (f50 55 (by decide)) 5))))
  have z106 : (σ63 2 3).toInt = (σ 2 3).toInt := (congrArg Int32.toInt (show σ63 2 3 = (σ 2 3) from ((congrFun (f65 2 (by decide)) 3).trans (congrFun (f50 2 (by decide)) 3))))
  have z107 : (σ63 55 4).toInt = (σ 55 4).toInt := (congrArg Int32.toInt (show σ63 55 4 = (σ 55 4) from ((f66 4 (by decide)).trans (congrFun (f50 55 (by decide)) 4))))
  have z108 : (σ63 9 0).toInt = (σ 9 0).toInt := (congrArg Int32.toInt (show σ63 9 0 = (σ 9 0) from ((congrFun (f65 9 (by decide)) 0).trans (congrFun (f50 9 (by decide)) 0))))
  have z109 : (σ63 55 15).toInt = (σ 55 15).toInt := (congrArg Int32.toInt (show σ63 55 15 = (σ 55 15) from ((f66 15 (by decide)).trans (congrFun (f50 55 (by decide)) 15))))
  have z110 : (σ63 16 0).toInt = (σ 16 0).toInt := (congrArg Int32.toInt (show σ63 16 0 = (σ 16 0) from ((congrFun (f65 16 (by decide)) 0).trans (congrFun (f50 16 (by decide)) 0))))
  have z111 : (σ63 16 1).toInt = (σ 16 1).toInt := (congrArg Int32.toInt (show σ63 16 1 = (σ 16 1) from ((congrFun (f65 16 (by decide)) 1).trans (congrFun (f50 16 (by decide)) 1))))
  have z112 : (σ63 16 2).toInt = (σ 16 2).toInt := (congrArg Int32.toInt (show σ63 16 2 = (σ 16 2) from ((congrFun (f65 16 (by decide)) 2).trans (congrFun (f50 16 (by decide)) 2))))
  have z113 : (σ63 38 0).toInt = (σ 38 0).toInt := (congrArg Int32.toInt (show σ63 38 0 = (σ 38 0) from ((congrFun (f65 38 (by decide)) 0).trans (congrFun (f50 38 (by decide)) 0))))
  have z114 : (σ63 55 32).toInt = (σ 55 32).toInt := (congrArg Int32.toInt (show σ63 55 32 = (σ 55 32) from ((f66 32 (by decide)).trans (congrFun (f50 55 (by decide)) 32))))
  have z115 : (σ63 47 0).toInt = (σ 47 0).toInt := (congrArg Int32.toInt (show σ63 47 0 = (σ 47 0) from ((congrFun (f65 47 (by decide)) 0).trans (congrFun (f50 47 (by decide)) 0))))
  have z116 : (σ63 55 47).toInt = (σ 55 47).toInt := (congrArg Int32.toInt (show σ63 55 47 = (σ 55 47) from ((f66 47 (by decide)).trans (congrFun (f50 55 (by decide)) 47))))
  have z117 : (σ63 55 30).toInt = (σ 55 30).toInt := (congrArg Int32.toInt (show σ63 55 30 = (σ 55 30) from ((f66 30 (by decide)).trans (congrFun (f50 55 (by decide)) 30))))
  have z118 : (σ63 55 31).toInt = (σ 55 31).toInt := (congrArg Int32.toInt (show σ63 55 31 = (σ 55 31) from ((f66 31 (by decide)).trans (congrFun (f50 55 (by decide)) 31))))
  have z119 : (σ48 55 10).toInt = (σ 55 10).toInt := (congrArg Int32.toInt (show σ48 55 10 = (σ 55 10) from (congrFun (f50 55 (by decide)) 10)))
  rw [show σ48 62 = σ 62 from (f50 62 (by decide))] at w71
  exact ih x81 σ63 τ _ _ ls (by have h9 := tx81; omega) ⟨I82, I83, I84, I85, I86, I87, I88, I89, I90, I91, I92, I93, I94, I95, I67, I96, I97, I98, I99, I100, I68, I69, p70, p101, (by omega), (by omega), (by omega), (by omega), (by omega), (by omega), (by omega), (by omega), (by omega), (by omega), (by omega), (show jNumP (σ63 3) (σ63 56) (σ63 6) (σ63 57) (σ63 7) (σ63 58) (σ63 8) (σ63 59) (σ63 55 6).toInt (σ63 55 4).toInt by rw [show σ63 3 = σ 3 from ((f65 3 (by decide)).trans (f50 3 (by decide))), show σ63 56 = σ 56 from ((f65 56 (by decide)).trans (f50 56 (by decide))), show σ63 6 = σ 6 from ((f65 6 (by decide)).trans (f50 6 (by decide))), show σ63 57 = σ 57 from ((f65 57 (by decide)).trans (f50 57 (by decide))), show σ63 7 = σ 7 from ((f65 7 (by decide)).trans (f50 7 (by decide))), show σ63 58 = σ 58 from ((f65 58 (by decide)).trans (f50 58 (by decide))), show σ63 8 = σ 8 from ((f65 8 (by decide)).trans (f50 8 (by decide))), show σ63 59 = σ 59 from ((f65 59 (by decide)).trans (f50 59 (by decide))), show (σ63 55 6).toInt = (σ 55 6).toInt from by omega, show (σ63 55 4).toInt = (σ 55 4).toInt from by omega]; exact hr0), (show jOvP (σ63 56) (σ63 57) (σ63 58) (σ63 59) (σ63 55 4).toInt by rw [show σ63 56 = σ 56 from ((f65 56 (by decide)).trans (f50 56 (by decide))), show σ63 57 = σ 57 from ((f65 57 (by decide)).trans (f50 57 (by decide))), show σ63 58 = σ 58 from ((f65 58 (by decide)).trans (f50 58 (by decide))), show σ63 59 = σ 59 from ((f65 59 (by decide)).trans (f50 59 (by decide))), show (σ63 55 4).toInt = (σ 55 4).toInt from by omega]; exact hr1), (show jTp (σ63 10) (σ63 63) (σ63 55 15).toInt by rw [show σ63 10 = σ 10 from ((f65 10 (by decide)).trans (f50 10 (by decide))), show σ63 63 = σ 63 from ((f65 63 (by decide)).trans (f50 63 (by decide)))]; exact hr2.le (by omega)), (show jSo (σ63 17) (σ63 62) (σ63 16 0).toInt by rw [show σ63 17 = σ 17 from ((f65 17 (by decide)).trans (f50 17 (by decide))), show (σ63 16 0).toInt = (σ 16 0).toInt from by omega]; exact hr3.thru w71 (by omega)), (show jShP (σ63 51) (σ63 52) (σ63 53) (σ63 86) (σ63 87) (σ63 55 32).toInt by rw [show σ63 51 = σ 51 from ((f65 51 (by decide)).trans (f50 51 (by decide))), show σ63 52 = σ 52 from ((f65 52 (by decide)).trans (f50 52 (by decide))), show σ63 53 = σ 53 from ((f65 53 (by decide)).trans (f50 53 (by decide))), show σ63 86 = σ 86 from ((f65 86 (by decide)).trans (f50 86 (by decide))), show σ63 87 = σ 87 from ((f65 87 (by decide)).trans (f50 87 (by decide)))]; exact (hr4.up (by omega) (by omega))), (show jEl (σ63 51) (σ63 52) (τ 54) (τ 88) by rw [show σ63 51 = σ 51 from ((f65 51 (by decide)).trans (f50 51 (by decide))), show σ63 52 = σ 52 from ((f65 52 (by decide)).trans (f50 52 (by decide)))]; exact hr5), (show jByP (σ63 51) (σ63 52) (τ 54) by rw [show σ63 51 = σ 51 from ((f65 51 (by decide)).trans (f50 51 (by decide))), show σ63 52 = σ 52 from ((f65 52 (by decide)).trans (f50 52 (by decide)))]; exact hr6), (show jBk (σ63 48) (σ63 80) (σ63 49) (σ63 81) (σ63 55 47).toInt by rw [show σ63 48 = σ 48 from ((f65 48 (by decide)).trans (f50 48 (by decide))), show σ63 49 = σ 49 from ((f65 49 (by decide)).trans (f50 49 (by decide))), show σ63 80 = σ 80 from ((f65 80 (by decide)).trans (f50 80 (by decide))), show σ63 81 = σ 81 from ((f65 81 (by decide)).trans (f50 81 (by decide))), show (σ63 55 47).toInt = (σ 55 47).toInt from by omega]; exact hr7)⟩ hP hS (lv_sub hl [0, 1, 2, 3] rfl)
set_option maxHeartbeats 4000000 in
set_option maxRecDepth 100000 in
theorem law_case_18 {p : Program} {e : Env} {s : State} {m : MethodId} {below : List Frame} {meth : Method} {c : Code} (l : Launch) {b L : Nat} {xs : Nat → Int32} {D : va_G} {cI cL : ClassId} {ad zz : Nat → Nat} (C0 : lw_At p s m meth c b L xs) (hJ : jD ad) (hA : ∀ q, jA ad q → s.heap.size ≤ q) (hK : jK D cI cL s) (hZ : jZ zz (fun q : Nat => s.heap.size ≤ q) s s.heap) {x0 : Int32} (hx0 : 0 ≤ x0.toInt) (hxL : x0.toInt + 6 ≤ (L : Int)) (hL : L ≤ 384) {σ : Nat → Nat → Int32} {τ : Nat → Nat → Int64} {H : Heap} {locs : List Loc} (hS : va_S (fun q : Nat => s.heap.size ≤ q) s.heap H locs) {ls : Array Slot} (hAll : jAll σ τ) (hP : jH D cI cL ad σ τ H) (hl : lv_has ls 4 [(3, .int x0), (2, .ref (ad 55)), (1, .ref (ad 0)), (0, .ref b)]) (ih : ∀ (x1 : Int32) (σ : Nat → Nat → Int32) (τ : Nat → Nat → Int64) (H : Heap) (locs : List Loc) (ls : Array Slot), x1.toInt = x0.toInt + 6 → jAll σ τ → jH D cI cL ad σ τ H → va_S (fun q : Nat => s.heap.size ≤ q) s.heap H locs → lv_has ls 4 [(3, .int x1), (2, .ref (ad 55)), (1, .ref (ad 0)), (0, .ref b)] → W p l e room_1 s m #[Value.ref b] below meth c H locs 90 348600 (lw_Z below #[Value.ref b] s) (F0 m 18 ls [])) : W p l e room_1 s m #[Value.ref b] below meth c H locs 90 348600 (lw_Z below #[Value.ref b] s) (F0 m 740 ls []) := by
  obtain ⟨hx, hb, hr, hml, hown, hts0, hX, hbl, hlocks, hgv⟩ := C0
  have hts : ∀ w ∈ wsL_law, w.before #[Value.ref b] s = true := fun w h => hts0 w (wsL_law_in w h)
  have hbA : ¬ (fun q : Nat => s.heap.size ≤ q) b := Nat.not_le.mpr hbl
  have hown : s.vm.findClass RL = some m.cls := hown
  obtain ⟨hI2, hI9, hI12, hI16, hI18, hI22, hI31, hI38, hI43, hI47, hI50, hI101, hI102, hI103, hI104, hI105, hI106, hI107, hI109, hI110, hI111, hI119, hs_jKept, hs_jBook, ht0, ht1, ht2, ht3, ht4, ht5, ht6, ht7, ht8, ht9, ht10, hr0, hr1, hr2, hr3, hr4, hr5, hr6, hr7⟩ := hAll
  have hL9 : (L : Int) ≤ 384 := by omega
  obtain ⟨i1, i2, i3, i4, i5, w6⟩ : (0 ≤ (σ 2 0).toInt ∧ (σ 2 0).toInt ≤ 4) ∧ (0 ≤ (σ 2 1).toInt ∧ (σ 2 1).toInt ≤ 3) ∧ (0 ≤ (σ 2 2).toInt) ∧ (0 ≤ (σ 2 3).toInt) ∧ ((σ 2 2).toInt + (σ 2 3).toInt ≤ 40) ∧ (∀ k : Nat, k < 40 → 0 ≤ (σ 6 k).toInt ∧ (σ 6 k).toInt ≤ 67) := id hI2
  obtain ⟨i7, w8, w9⟩ : (0 ≤ (σ 9 0).toInt ∧ (σ 9 0).toInt ≤ 80) ∧ (∀ k : Nat, k < 80 → 0 ≤ (σ 10 k).toInt ∧ (σ 10 k).toInt ≤ 255) ∧ (∀ k : Nat, k < 8 → 0 ≤ (σ 11 k).toInt ∧ (σ 11 k).toInt ≤ 3) := id hI9
  obtain ⟨i10, i11, i12, w13⟩ : (1 ≤ (σ 16 0).toInt ∧ (σ 16 0).toInt ≤ 8) ∧ (1 ≤ (σ 16 1).toInt ∧ (σ 16 1).toInt ≤ 12) ∧ (0 ≤ (σ 16 2).toInt ∧ (σ 16 2).toInt ≤ 999) ∧ (∀ k : Nat, k < 8 → 0 ≤ (σ 17 k).toInt ∧ (σ 17 k).toInt ≤ 3) := id hI16
  obtain ⟨i14, i15, w16⟩ : (0 ≤ (σ 38 0).toInt ∧ (σ 38 0).toInt ≤ 20) ∧ (0 ≤ (σ 38 1).toInt ∧ (σ 38 1).toInt ≤ 1000) ∧ (∀ k : Nat, k < 20 → 0 ≤ (σ 39 k).toInt ∧ (σ 39 k).toInt ≤ 6) := id hI38
  obtain ⟨i17, w18, w19⟩ : (0 ≤ (σ 47 0).toInt ∧ (σ 47 0).toInt ≤ 12) ∧ (∀ k : Nat, k < 12 → 0 ≤ (σ 48 k).toInt ∧ (σ 48 k).toInt ≤ 3) ∧ (∀ k : Nat, k < 12 → 0 ≤ (σ 49 k).toInt ∧ (σ 49 k).toInt ≤ 1) := id hI47
  have w20 : ∀ k : Nat, k < 6 → 0 ≤ (σ 52 k).toInt ∧ (σ 52 k).toInt ≤ 60 := hI50
  obtain ⟨i21, i22, i23, w24, w25, w26, w27⟩ : (0 ≤ (σ 55 5).toInt) ∧ ((σ 55 5).toInt ≤ (σ 55 4).toInt) ∧ ((σ 55 4).toInt ≤ 40) ∧ (∀ k : Nat, k < 68 → (-200) ≤ (σ 56 k).toInt ∧ (σ 56 k).toInt ≤ 500) ∧ (∀ k : Nat, k < 40 → 0 ≤ (σ 57 k).toInt ∧ (σ 57 k).toInt ≤ 67) ∧ (∀ k : Nat, k < 40 → (-200) ≤ (σ 58 k).toInt ∧ (σ 58 k).toInt ≤ 500) ∧ (∀ k : Nat, k < 40 → (-200) ≤ (σ 59 k).toInt ∧ (σ 59 k).toInt ≤ 500) := id hI101
  obtain ⟨i28, w29, w30⟩ : (0 ≤ (σ 55 6).toInt ∧ (σ 55 6).toInt ≤ 4) ∧ (∀ k : Nat, k < 4 → 0 ≤ (σ 60 k).toInt ∧ (σ 60 k).toInt ≤ 50) ∧ (∀ k : Nat, k < 4 → 0 ≤ (σ 61 k).toInt ∧ (σ 61 k).toInt ≤ 20) := id hI102
  obtain ⟨i31, i32, i33, w34, w35⟩ : (1 ≤ (σ 55 10).toInt ∧ (σ 55 10).toInt ≤ 8) ∧ (1 ≤ (σ 55 12).toInt ∧ (σ 55 12).toInt ≤ 12) ∧ (0 ≤ (σ 55 13).toInt ∧ (σ 55 13).toInt ≤ 999) ∧ (∀ k : Nat, k < 8 → 0 ≤ (σ 62 k).toInt ∧ (σ 62 k).toInt ≤ 3) ∧ (∀ k : Nat, k < 8 → 0 ≤ (σ 67 k).toInt ∧ (σ 67 k).toInt ≤ 3) := id hI104
  obtain ⟨i36, w37⟩ : (0 ≤ (σ 55 15).toInt ∧ (σ 55 15).toInt ≤ 80) ∧ (∀ k : Nat, k < 2 → (-1) ≤ (σ 65 k).toInt ∧ (σ 65 k).toInt ≤ 80) := id hI105
  obtain ⟨i38, w39, w40, w41⟩ : (0 ≤ (σ 55 32).toInt ∧ (σ 55 32).toInt ≤ 20) ∧ (∀ k : Nat, k < 20 → 0 ≤ (σ 70 k).toInt ∧ (σ 70 k).toInt ≤ 6) ∧ (∀ k : Nat, k < 20 → 0 ≤ (σ 71 k).toInt ∧ (σ 71 k).toInt ≤ 8) ∧ (∀ k : Nat, k < 160 → 0 ≤ (σ 72 k).toInt ∧ (σ 72 k).toInt ≤ 3) := id hI106
  obtain ⟨i42, i43, w44⟩ : (0 ≤ (σ 55 47).toInt ∧ (σ 55 47).toInt ≤ 12) ∧ ((σ 55 47).toInt ≤ (σ 55 12).toInt) ∧ (∀ k : Nat, k < 12 → 0 ≤ (σ 80 k).toInt ∧ (σ 80 k).toInt ≤ 3) := id hI107
  refine lv_aload_n hx hb dL_law_740 rfl (lv_at hl 2 rfl) ?_
  refine lv_aload_n hx hb dL_law_741 rfl (lv_at hl 3 rfl) ?_
  refine lv_iload_n hx hb dL_law_742 rfl (lv_at hl 0 rfl) ?_
  refine lv_iconst (v := 1) hx hb dL_law_743 (by decide) ?_
  have g45 := jrg (rfl : x0.toInt = x0.toInt)
  refine lv_iadd hx hb dL_law_744 ?_
  refine lv_topi (fun x46 ex46 => ?_)
  have tx46 : x46.toInt = x0.toInt + 1 := (jadd ex46 rfl jz_1 (by omega) (by omega)).trans (by omega)
  refine va_sld hx hb hX hbl hbA hS (jin tx46 (by omega) (by omega)) dL_law_745 ?_
  have g47 := jrg (rfl : (xs x46.toNatClampNeg).toInt = (xs x46.toNatClampNeg).toInt)
  refine lv_aload_n hx hb dL_law_746 rfl (lv_at hl 3 rfl) ?_
  refine lv_iload_n hx hb dL_law_747 rfl (lv_at hl 0 rfl) ?_
  refine lv_iconst (v := 2) hx hb dL_law_748 (by decide) ?_
  refine lv_iadd hx hb dL_law_749 ?_
  refine lv_topi (fun x48 ex48 => ?_)
  have tx48 : x48.toInt = x0.toInt + 2 := (jadd ex48 rfl jz_2 (by omega) (by omega)).trans (by omega)
  refine va_sld hx hb hX hbl hbA hS (jin tx48 (by omega) (by omega)) dL_law_750 ?_
  have g49 := jrg (rfl : (xs x48.toNatClampNeg).toInt = (xs x48.toNatClampNeg).toInt)
  refine jcallV (As := [.int (xs x46.toNatClampNeg), .int (xs x48.toNatClampNeg)]) (rest := []) ⟨hx, hb, hml, hown, hts⟩ hK hP hA hS hZ (c_X11_learn l D cI cL ad zz hJ σ τ (xs x46.toNatClampNeg) ((xs x46.toNatClampNeg).toInt) rfl (xs x48.toNatClampNeg) ((xs x48.toNatClampNeg).toInt) rfl hI2) cw_RL_89 (jc_0 cI cL ad σ τ) rfl ⟨Nat.le_of_ble_eq_true rfl, Nat.le_of_ble_eq_true rfl⟩ rfl rfl rfl hl.1 rfl (Nat.le_of_ble_eq_true rfl) dL_law_751 ⟨Nat.le_of_ble_eq_true rfl, Nat.le_of_ble_eq_true rfl⟩ (fun r51 σ50 τ50 H locs h50 hP hS => ?_)
  obtain ⟨rfl, f52, f53, I54, h50⟩ := h50
  obtain ⟨i56, i57, i58, i59, i60, w61⟩ : (0 ≤ (σ50 2 0).toInt ∧ (σ50 2 0).toInt ≤ 4) ∧ (0 ≤ (σ50 2 1).toInt ∧ (σ50 2 1).toInt ≤ 3) ∧ (0 ≤ (σ50 2 2).toInt) ∧ (0 ≤ (σ50 2 3).toInt) ∧ ((σ50 2 2).toInt + (σ50 2 3).toInt ≤ 40) ∧ (∀ k : Nat, k < 40 → 0 ≤ (σ50 6 k).toInt ∧ (σ50 6 k).toInt ≤ 67) := id I54
  have z62 : (σ50 2 0).toInt = (σ 2 0).toInt := (congrArg Int32.toInt (show σ50 2 0 = (σ 2 0) from (f53 0 (by decide))))
  have z63 : (σ50 2 1).toInt = (σ 2 1).toInt := (congrArg Int32.toInt (show σ50 2 1 = (σ 2 1) from (f53 1 (by decide))))
  rcases h50 with h64 | h65
  · obtain ⟨q70, k66, k67, k68, k69⟩ := h64
    have q70 := q70.symm
    subst q70
    refine lv_pop hx hb dL_law_754 rfl ?_
    refine lv_aload_n hx hb dL_law_755 rfl (lv_at hl 1 rfl) ?_
    refine lv_aload_n hx hb dL_law_756 rfl (lv_at hl 3 rfl) ?_
    refine lv_iload_n hx hb dL_law_757 rfl (lv_at hl 0 rfl) ?_
    refine lv_iconst (v := 1) hx hb dL_law_758 (by decide) ?_
    refine lv_iadd hx hb dL_law_759 ?_
    refine jtopr ex46.symm ?_
    refine va_sld hx hb hX hbl hbA hS (jin tx46 (by omega) (by omega)) dL_law_760 ?_
    refine lv_aload_n hx hb dL_law_761 rfl (lv_at hl 3 rfl) ?_
    refine lv_iload_n hx hb dL_law_762 rfl (lv_at hl 0 rfl) ?_
    refine lv_iconst (v := 2) hx hb dL_law_763 (by decide) ?_
    refine lv_iadd hx hb dL_law_764 ?_
    refine jtopr ex48.symm ?_
    refine va_sld hx hb hX hbl hbA hS (jin tx48 (by omega) (by omega)) dL_law_765 ?_
    have I71 : jI101 σ50 := jI101_fr (congrFun (f52 55 (by decide)) 4) (congrFun (f52 55 (by decide)) 5) (f52 56 (by decide)) (f52 57 (by decide)) (f52 58 (by decide)) (f52 59 (by decide)) hI101
    have I72 : jI102 σ50 := jI102_fr (congrFun (f52 55 (by decide)) 6) (f52 60 (by decide)) (f52 61 (by decide)) hI102
    have z73 : (σ50 55 6).toInt = (σ 55 6).toInt := (congrArg Int32.toInt (show σ50 55 6 = (σ 55 6) from (congrFun (f52 55 (by decide)) 6)))
    have z74 : (σ50 55 5).toInt = (σ 55 5).toInt := (congrArg Int32.toInt (show σ50 55 5 = (σ 55 5) from (congrFun (f52 55 (by decide)) 5)))
    have z75 : (σ50 55 4).toInt = (σ 55 4).toInt := (congrArg Int32.toInt (show σ50 55 4 = (σ 55 4) from (congrFun (f52 55 (by decide)) 4)))
    refine jcallV (As := [.int (xs x46.toNatClampNeg), .int (xs x48.toNatClampNeg)]) (rest := []) ⟨hx, hb, hml, hown, hts⟩ hK hP hA hS hZ (c_X12_learn l D cI cL ad zz hJ σ50 τ (xs x46.toNatClampNeg) ((xs x46.toNatClampNeg).toInt) rfl (xs x48.toNatClampNeg) ((xs x48.toNatClampNeg).toInt) rfl I71 I72) cw_RL_92 (jc_55 cI cL ad σ50 τ) rfl ⟨Nat.le_of_ble_eq_true rfl, Nat.le_of_ble_eq_true rfl⟩ rfl rfl rfl hl.1 rfl (Nat.le_of_ble_eq_true rfl) dL_law_766 ⟨Nat.le_of_ble_eq_true rfl, Nat.le_of_ble_eq_true rfl⟩ (fun r77 σ76 τ76 H locs h76 hP hS => ?_)
    obtain ⟨rfl, f78, f79, I80, h76⟩ := h76
    obtain ⟨i82, i83, i84, w85, w86, w87, w88⟩ : (0 ≤ (σ76 55 5).toInt) ∧ ((σ76 55 5).toInt ≤ (σ76 55 4).toInt) ∧ ((σ76 55 4).toInt ≤ 40) ∧ (∀ k : Nat, k < 68 → (-200) ≤ (σ76 56 k).toInt ∧ (σ76 56 k).toInt ≤ 500) ∧ (∀ k : Nat, k < 40 → 0 ≤ (σ76 57 k).toInt ∧ (σ76 57 k).toInt ≤ 67) ∧ (∀ k : Nat, k < 40 → (-200) ≤ (σ76 58 k).toInt ∧ (σ76 58 k).toInt ≤ 500) ∧ (∀ k : Nat, k < 40 → (-200) ≤ (σ76 59 k).toInt ∧ (σ76 59 k).toInt ≤ 500) := id I80
    rcases h76 with h89 | h90
    · obtain ⟨q95, k91, k92, k93, k94⟩ := h89
      have q95 := q95.symm
      subst q95
      refine lv_pop hx hb dL_law_769 rfl ?_
      refine lv_goto (tgt := 1357) hx hb dL_law_770 (by decide) ?_
      obtain ⟨x96, ex96⟩ : ∃ y : Int32, y = x0 + 6 := ⟨_, rfl⟩
      have tx96 : x96.toInt = x0.toInt + 6 := (jadd ex96 rfl jz_6 (by omega) (by omega)).trans (by omega)
      refine lv_iinc (v := x96) (lv' := [(3, .int x96), (2, .ref (ad 55)), (1, .ref (ad 0)), (0, .ref b)]) hx hb dL_law_1357 hl (k := 0) rfl (by rw [ex96]; rfl) (by decide) rfl (fun ls hl => ?_)
      refine lv_goto (tgt := 18) hx hb dL_law_1360 (by decide) ?_
      have I97 : jI2 σ76 := jI2_fr (congrFun (f78 2 (by decide)) 0) (congrFun (f78 2 (by decide)) 1) (congrFun (f78 2 (by decide)) 2) (congrFun (f78 2 (by decide)) 3) (f78 6 (by decide)) I54
      have I98 : jI9 σ76 := jI9_fr ((congrFun (f78 9 (by decide)) 0).trans (congrFun (f52 9 (by decide)) 0)) ((f78 10 (by decide)).trans (f52 10 (by decide))) ((f78 11 (by decide)).trans (f52 11 (by decide))) hI9
      have I99 : jI12 σ76 := jI12_fr ((congrFun (f78 12 (by decide)) 0).trans (congrFun (f52 12 (by decide)) 0)) ((f78 13 (by decide)).trans (f52 13 (by decide))) hI12
      have I100 : jI16 σ76 := jI16_fr ((congrFun (f78 16 (by decide)) 0).trans (congrFun (f52 16 (by decide)) 0)) ((congrFun (f78 16 (by decide)) 1).trans (congrFun (f52 16 (by decide)) 1)) ((congrFun (f78 16 (by decide)) 2).trans (congrFun (f52 16 (by decide)) 2)) ((f78 17 (by decide)).trans (f52 17 (by decide))) hI16
      have I101 : jI18 σ76 := jI18_fr ((congrFun (f78 18 (by decide)) 0).trans (congrFun (f52 18 (by decide)) 0)) ((f78 19 (by decide)).trans (f52 19 (by decide))) hI18
      have I102 : jI22 σ76 := jI22_fr ((congrFun (f78 22 (by decide)) 0).trans (congrFun (f52 22 (by decide)) 0)) ((f78 23 (by decide)).trans (f52 23 (by decide))) hI22
      have I103 : jI31 σ76 := jI31_fr ((congrFun (f78 31 (by decide)) 8).trans (congrFun (f52 31 (by decide)) 8)) ((f78 33 (by decide)).trans (f52 33 (by decide))) ((f78 36 (by decide)).trans (f52 36 (by decide))) hI31
      have I104 : jI38 σ76 := jI38_fr ((congrFun (f78 38 (by decide)) 0).trans (congrFun (f52 38 (by decide)) 0)) ((congrFun (f78 38 (by decide)) 1).trans (congrFun (f52 38 (by decide)) 1)) ((f78 39 (by decide)).trans (f52 39 (by decide))) hI38
      have I105 : jI43 σ76 := jI43_fr ((congrFun (f78 43 (by decide)) 8).trans (congrFun (f52 43 (by decide)) 8)) hI43
      have I106 : jI47 σ76 := jI47_fr ((congrFun (f78 47 (by decide)) 0).trans (congrFun (f52 47 (by decide)) 0)) ((f78 48 (by decide)).trans (f52 48 (by decide))) ((f78 49 (by decide)).trans (f52 49 (by decide))) hI47
      have I107 : jI50 σ76 := jI50_fr ((f78 52 (by decide)).trans (f52 52 (by decide))) hI50
      have I108 : jI102 σ76 := jI102_fr (f79 6 (by decide)) (f78 60 (by decide)) (f78 61 (by decide)) I72
      have I109 : jI103 σ76 := jI103_fr ((f79 9 (by decide)).trans (congrFun (f52 55 (by decide)) 9)) hI103
      have I110 : jI104 σ76 := jI104_fr ((f79 10 (by decide)).trans (congrFun (f52 55 (by decide)) 10)) ((f79 12 (by decide)).trans (congrFun (f52 55 (by decide)) 12)) ((f79 13 (by decide)).trans (congrFun (f52 55 (by decide)) 13)) ((f78 62 (by decide)).trans (f52 62 (by decide))) ((f78 67 (by decide)).trans (f52 67 (by decide))) hI104
      have I111 : jI105 σ76 := jI105_fr ((f79 15 (by decide)).trans (congrFun (f52 55 (by decide)) 15)) ((f78 65 (by decide)).trans (f52 65 (by decide))) hI105
      have I112 : jI106 σ76 := jI106_fr ((f79 32 (by decide)).trans (congrFun (f52 55 (by decide)) 32)) ((f78 70 (by decide)).trans (f52 70 (by decide))) ((f78 71 (by decide)).trans (f52 71 (by decide))) ((f78 72 (by decide)).trans (f52 72 (by decide))) hI106
      have I113 : jI107 σ76 := jI107_fr ((f79 12 (by decide)).trans (congrFun (f52 55 (by decide)) 12)) ((f79 47 (by decide)).trans (congrFun (f52 55 (by decide)) 47)) ((f78 80 (by decide)).trans (f52 80 (by decide))) hI107
      have I114 : jI109 σ76 := jI109_fr ((f79 50 (by decide)).trans (congrFun (f52 55 (by decide)) 50)) hI109
      have I115 : jI110 σ76 := jI110_fr ((f78 86 (by decide)).trans (f52 86 (by decide))) ((f78 87 (by decide)).trans (f52 87 (by decide))) hI110
      have I116 : jI111 σ76 := jI111_fr ((f78 79 (by decide)).trans (f52 79 (by decide))) hI111
      have I117 : jI119 σ76 := jI119_fr ((f78 68 (by decide)).trans (f52 68 (by decide))) hI119
      have p118 : jKept σ76 := jKept.fr ((f78 75 (by decide)).trans (f52 75 (by decide))) ((f78 76 (by decide)).trans (f52 76 (by decide))) ((f78 77 (by decide)).trans (f52 77 (by decide))) hs_jKept
      have p119 : jBook σ76 := jBook.fr ((f79 47 (by decide)).trans (congrFun (f52 55 (by decide)) 47)) ((f79 10 (by decide)).trans (congrFun (f52 55 (by decide)) 10)) ((f78 81 (by decide)).trans (f52 81 (by decide))) hs_jBook
      have z120 : (σ76 2 0).toInt = (σ 2 0).toInt := (congrArg Int32.toInt (show σ76 2 0 = (σ 2 0) from ((congrFun (f78 2 (by decide)) 0).trans (f53 0 (by decide)))))
      have z121 : (σ76 55 6).toInt = (σ 55 6).toInt := (congrArg Int32.toInt (show σ76 55 6 = (σ 55 6) from ((f79 6 (by decide)).trans (congrFun (f52 55 (by decide)) 6))))
      have z122 : (σ76 2 2).toInt = (σ50 2 2).toInt := (congrArg Int32.toInt (show σ76 2 2 = (σ50 2 2) from (congrFun (f78 2 (by decide)) 2)))
      have z123 : (σ76 2 3).toInt = (σ50 2 3).toInt := (congrArg Int32.toInt (show σ76 2 3 = (σ50 2 3) from (congrFun (f78 2 (by decide)) 3)))
      have z124 : (σ76 9 0).toInt = (σ 9 0).toInt := (congrArg Int32.toInt (show σ76 9 0 = (σ 9 0) from ((congrFun (f78 9 (by decide)) 0).trans (congrFun (f52 9 (by decide)) 0))))
      have z125 : (σ76 55 15).toInt = (σ 55 15).toInt := (congrArg Int32.toInt (show σ76 55 15 = (σ 55 15) from ((f79 15 (by decide)).trans (congrFun (f52 55 (by decide)) 15))))
      have z126 : (σ76 16 0).toInt = (σ 16 0).toInt := (congrArg Int32.toInt (show σ76 16 0 = (σ 16 0) from ((congrFun (f78 16 (by decide)) 0).trans (congrFun (f52 16 (by decide)) 0))))
      have z127 : (σ76 55 10).toInt = (σ 55 10).toInt := (congrArg Int32.toInt (show σ76 55 10 = (σ 55 10) from ((f79 10 (by decide)).trans (congrFun (f52 55 (by decide)) 10))))
      have z128 : (σ76 16 1).toInt = (σ 16 1).toInt := (congrArg Int32.toInt (show σ76 16 1 = (σ 16 1) from ((congrFun (f78 16 (by decide)) 1).trans (congrFun (f52 16 (by decide)) 1))))
      have z129 : (σ76 55 12).toInt = (σ 55 12).toInt := (congrArg Int32.toInt (show σ76 55 12 = (σ 55 12) from ((f79 12 (by decide)).trans (congrFun (f52 55 (by decide)) 12))))
      have z130 : (σ76 16 2).toInt = (σ 16 2).toInt := (congrArg Int32.toInt (show σ76 16 2 = (σ 16 2) from ((congrFun (f78 16 (by decide)) 2).trans (congrFun (f52 16 (by decide)) 2))))
      have z131 : (σ76 55 13).toInt = (σ 55 13).toInt := (congrArg Int32.toInt (show σ76 55 13 = (σ 55 13) from ((f79 13 (by decide)).trans (congrFun (f52 55 (by decide)) 13))))
      have z132 : (σ76 38 0).toInt = (σ 38 0).toInt := (congrArg Int32.toInt (show σ76 38 0 = (σ 38 0) from ((congrFun (f78 38 (by decide)) 0).trans (congrFun (f52 38 (by decide)) 0))))
      have z133 : (σ76 55 32).toInt = (σ 55 32).toInt := (congrArg Int32.toInt (show σ76 55 32 = (σ 55 32) from ((f79 32 (by decide)).trans (congrFun (f52 55 (by decide)) 32))))
      have z134 : (σ76 47 0).toInt = (σ 47 0).toInt := (congrArg Int32.toInt (show σ76 47 0 = (σ 47 0) from ((congrFun (f78 47 (by decide)) 0).trans (congrFun (f52 47 (by decide)) 0))))
      have z135 : (σ76 55 47).toInt = (σ 55 47).toInt := (congrArg Int32.toInt (show σ76 55 47 = (σ 55 47) from ((f79 47 (by decide)).trans (congrFun (f52 55 (by decide)) 47))))
      have z136 : (σ76 55 30).toInt = (σ 55 30).toInt := (congrArg Int32.toInt (show σ76 55 30 = (σ 55 30) from ((f79 30 (by decide)).trans (congrFun (f52 55 (by decide)) 30))))
      have z137 : (σ76 55 31).toInt = (σ 55 31).toInt := (congrArg Int32.toInt (show σ76 55 31 = (σ 55 31) from ((f79 31 (by decide)).trans (congrFun (f52 55 (by decide)) 31))))
      exact ih x96 σ76 τ _ _ ls (by have h9 := tx96; omega) ⟨I97, I98, I99, I100, I101, I102, I103, I104, I105, I106, I107, I80, I108, I109, I110, I111, I112, I113, I114, I115, I116, I117, p118, p119, (by omega), (by omega), (by omega), (by omega), (by omega), (by omega), (by omega), (by omega), (by omega), (by omega), (by omega), (show jNumP (σ76 3) (σ76 56) (σ76 6) (σ76 57) (σ76 7) (σ76 58) (σ76 8) (σ76 59) (σ76 55 6).toInt (σ76 55 4).toInt by rw [show σ76 3 = σ 3 from ((f78 3 (by decide)).trans k69.1), show σ76 56 = σ 56 from (k94.1.trans (f52 56 (by decide))), show σ76 6 = σ 6 from ((f78 6 (by decide)).trans k69.2.1), show σ76 57 = σ 57 from (k94.2.1.trans (f52 57 (by decide))), show σ76 7 = σ 7 from ((f78 7 (by decide)).trans k69.2.2.1), show σ76 58 = σ 58 from (k94.2.2.1.trans (f52 58 (by decide))), show σ76 8 = σ 8 from ((f78 8 (by decide)).trans k69.2.2.2), show σ76 59 = σ 59 from (k94.2.2.2.trans (f52 59 (by decide))), show (σ76 55 6).toInt = (σ 55 6).toInt from by omega, show (σ76 55 4).toInt = (σ 55 4).toInt from by omega]; exact hr0), (show jOvP (σ76 56) (σ76 57) (σ76 58) (σ76 59) (σ76 55 4).toInt by rw [show σ76 56 = σ 56 from (k94.1.trans (f52 56 (by decide))), show σ76 57 = σ 57 from (k94.2.1.trans (f52 57 (by decide))), show σ76 58 = σ 58 from (k94.2.2.1.trans (f52 58 (by decide))), show σ76 59 = σ 59 from (k94.2.2.2.trans (f52 59 (by decide))), show (σ76 55 4).toInt = (σ 55 4).toInt from by omega]; exact hr1), (show jTp (σ76 10) (σ76 63) (σ76 55 15).toInt by rw [show σ76 10 = σ 10 from ((f78 10 (by decide)).trans (f52 10 (by decide))), show σ76 63 = σ 63 from ((f78 63 (by decide)).trans (f52 63 (by decide)))]; exact hr2.le (by omega)), (show jSo (σ76 17) (σ76 62) (σ76 16 0).toInt by rw [show σ76 17 = σ 17 from ((f78 17 (by decide)).trans (f52 17 (by decide))), show σ76 62 = σ 62 from ((f78 62 (by decide)).trans (f52 62 (by decide))), show (σ76 16 0).toInt = (σ 16 0).toInt from by omega]; exact hr3), (show jShP (σ76 51) (σ76 52) (σ76 53) (σ76 86) (σ76 87) (σ76 55 32).toInt by rw [show σ76 51 = σ 51 from ((f78 51 (by decide)).trans (f52 51 (by decide))), show σ76 52 = σ 52 from ((f78 52 (by decide)).trans (f52 52 (by decide))), show σ76 53 = σ 53 from ((f78 53 (by decide)).trans (f52 53 (by decide))), show σ76 86 = σ 86 from ((f78 86 (by decide)).trans (f52 86 (by decide))), show σ76 87 = σ 87 from ((f78 87 (by decide)).trans (f52 87 (by decide)))]; exact (hr4.up (by omega) (by omega))), (show jEl (σ76 51) (σ76 52) (τ 54) (τ 88) by rw [show σ76 51 = σ 51 from ((f78 51 (by decide)).trans (f52 51 (by decide))), show σ76 52 = σ 52 from ((f78 52 (by decide)).trans (f52 52 (by decide)))]; exact hr5), (show jByP (σ76 51) (σ76 52) (τ 54) by rw [show σ76 51 = σ 51 from ((f78 51 (by decide)).trans (f52 51 (by decide))), show σ76 52 = σ 52 from ((f78 52 (by decide)).trans (f52 52 (by decide)))]; exact hr6), (show jBk (σ76 48) (σ76 80) (σ76 49) (σ76 81) (σ76 55 47).toInt by rw [show σ76 48 = σ 48 from ((f78 48 (by decide)).trans (f52 48 (by decide))), show σ76 49 = σ 49 from ((f78 49 (by decide)).trans (f52 49 (by decide))), show σ76 80 = σ 80 from ((f78 80 (by decide)).trans (f52 80 (by decide))), show σ76 81 = σ 81 from ((f78 81 (by decide)).trans (f52 81 (by decide))), show (σ76 55 47).toInt = (σ 55 47).toInt from by omega]; exact hr7)⟩ hP hS (lv_sub hl [0, 1, 2, 3] rfl)
    · obtain ⟨q146, k139, k140, k141, k142, k143, k144, k145⟩ := h90
      refine lv_pop hx hb dL_law_769 rfl ?_
      refine lv_goto (tgt := 1357) hx hb dL_law_770 (by decide) ?_
      obtain ⟨x147, ex147⟩ : ∃ y : Int32, y = x0 + 6 := ⟨_, rfl⟩
      have tx147 : x147.toInt = x0.toInt + 6 := (jadd ex147 rfl jz_6 (by omega) (by omega)).trans (by omega)
      refine lv_iinc (v := x147) (lv' := [(3, .int x147), (2, .ref (ad 55)), (1, .ref (ad 0)), (0, .ref b)]) hx hb dL_law_1357 hl (k := 0) rfl (by rw [ex147]; rfl) (by decide) rfl (fun ls hl => ?_)
      refine lv_goto (tgt := 18) hx hb dL_law_1360 (by decide) ?_
      have I148 : jI2 σ76 := jI2_fr (congrFun (f78 2 (by decide)) 0) (congrFun (f78 2 (by decide)) 1) (congrFun (f78 2 (by decide)) 2) (congrFun (f78 2 (by decide)) 3) (f78 6 (by decide)) I54
      have I149 : jI9 σ76 := jI9_fr ((congrFun (f78 9 (by decide)) 0).trans (congrFun (f52 9 (by decide)) 0)) ((f78 10 (by decide)).trans (f52 10 (by decide))) ((f78 11 (by decide)).trans (f52 11 (by decide))) hI9
      have I150 : jI12 σ76 := jI12_fr ((congrFun (f78 12 (by decide)) 0).trans (congrFun (f52 12 (by decide)) 0)) ((f78 13 (by decide)).trans (f52 13 (by decide))) hI12
      have I151 : jI16 σ76 := jI16_fr ((congrFun (f78 16 (by decide)) 0).trans (congrFun (f52 16 (by decide)) 0)) ((congrFun (f78 16 (by decide)) 1).trans (congrFun (f52 16 (by decide)) 1)) ((congrFun (f78 16 (by decide)) 2).trans (congrFun (f52 16 (by decide)) 2)) ((f78 17 (by decide)).trans (f52 17 (by decide))) hI16
      have I152 : jI18 σ76 := jI18_fr ((congrFun (f78 18 (by decide)) 0).trans (congrFun (f52 18 (by decide)) 0)) ((f78 19 (by decide)).trans (f52 19 (by decide))) hI18
      have I153 : jI22 σ76 := jI22_fr ((congrFun (f78 22 (by decide)) 0).trans (congrFun (f52 22 (by decide)) 0)) ((f78 23 (by decide)).trans (f52 23 (by decide))) hI22
      have I154 : jI31 σ76 := jI31_fr ((congrFun (f78 31 (by decide)) 8).trans (congrFun (f52 31 (by decide)) 8)) ((f78 33 (by decide)).trans (f52 33 (by decide))) ((f78 36 (by decide)).trans (f52 36 (by decide))) hI31
      have I155 : jI38 σ76 := jI38_fr ((congrFun (f78 38 (by decide)) 0).trans (congrFun (f52 38 (by decide)) 0)) ((congrFun (f78 38 (by decide)) 1).trans (congrFun (f52 38 (by decide)) 1)) ((f78 39 (by decide)).trans (f52 39 (by decide))) hI38
      have I156 : jI43 σ76 := jI43_fr ((congrFun (f78 43 (by decide)) 8).trans (congrFun (f52 43 (by decide)) 8)) hI43
      have I157 : jI47 σ76 := jI47_fr ((congrFun (f78 47 (by decide)) 0).trans (congrFun (f52 47 (by decide)) 0)) ((f78 48 (by decide)).trans (f52 48 (by decide))) ((f78 49 (by decide)).trans (f52 49 (by decide))) hI47
      have I158 : jI50 σ76 := jI50_fr ((f78 52 (by decide)).trans (f52 52 (by decide))) hI50
      have I159 : jI102 σ76 := jI102_fr (f79 6 (by decide)) (f78 60 (by decide)) (f78 61 (by decide)) I72
      have I160 : jI103 σ76 := jI103_fr ((f79 9 (by decide)).trans (congrFun (f52 55 (by decide)) 9)) hI103
      have I161 : jI104 σ76 := jI104_fr ((f79 10 (by decide)).trans (congrFun (f52 55 (by decide)) 10)) ((f79 12 (by decide)).trans (congrFun (f52 55 (by decide)) 12)) ((f79 13 (by decide)).trans (congrFun (f52 55 (by decide)) 13)) ((f78 62 (by decide)).trans (f52 62 (by decide))) ((f78 67 (by decide)).trans (f52 67 (by decide))) hI104
      have I162 : jI105 σ76 := jI105_fr ((f79 15 (by decide)).trans (congrFun (f52 55 (by decide)) 15)) ((f78 65 (by decide)).trans (f52 65 (by decide))) hI105
      have I163 : jI106 σ76 := jI106_fr ((f79 32 (by decide)).trans (congrFun (f52 55 (by decide)) 32)) ((f78 70 (by decide)).trans (f52 70 (by decide))) ((f78 71 (by decide)).trans (f52 71 (by decide))) ((f78 72 (by decide)).trans (f52 72 (by decide))) hI106
      have I164 : jI107 σ76 := jI107_fr ((f79 12 (by decide)).trans (congrFun (f52 55 (by decide)) 12)) ((f79 47 (by decide)).trans (congrFun (f52 55 (by decide)) 47)) ((f78 80 (by decide)).trans (f52 80 (by decide))) hI107
      have I165 : jI109 σ76 := jI109_fr ((f79 50 (by decide)).trans (congrFun (f52 55 (by decide)) 50)) hI109
      have I166 : jI110 σ76 := jI110_fr ((f78 86 (by decide)).trans (f52 86 (by decide))) ((f78 87 (by decide)).trans (f52 87 (by decide))) hI110
      have I167 : jI111 σ76 := jI111_fr ((f78 79 (by decide)).trans (f52 79 (by decide))) hI111
      have I168 : jI119 σ76 := jI119_fr ((f78 68 (by decide)).trans (f52 68 (by decide))) hI119
      have p169 : jKept σ76 := jKept.fr ((f78 75 (by decide)).trans (f52 75 (by decide))) ((f78 76 (by decide)).trans (f52 76 (by decide))) ((f78 77 (by decide)).trans (f52 77 (by decide))) hs_jKept
      have p170 : jBook σ76 := jBook.fr ((f79 47 (by decide)).trans (congrFun (f52 55 (by decide)) 47)) ((f79 10 (by decide)).trans (congrFun (f52 55 (by decide)) 10)) ((f78 81 (by decide)).trans (f52 81 (by decide))) hs_jBook
      have z171 : (σ76 2 0).toInt = (σ 2 0).toInt := (congrArg Int32.toInt (show σ76 2 0 = (σ 2 0) from ((congrFun (f78 2 (by decide)) 0).trans (f53 0 (by decide)))))
      have z172 : (σ76 55 6).toInt = (σ 55 6).toInt := (congrArg Int32.toInt (show σ76 55 6 = (σ 55 6) from ((f79 6 (by decide)).trans (congrFun (f52 55 (by decide)) 6))))
      have z173 : (σ76 2 2).toInt = (σ50 2 2).toInt := (congrArg Int32.toInt (show σ76 2 2 = (σ50 2 2) from (congrFun (f78 2 (by decide)) 2)))
      have z174 : (σ76 2 3).toInt = (σ50 2 3).toInt := (congrArg Int32.toInt (show σ76 2 3 = (σ50 2 3) from (congrFun (f78 2 (by decide)) 3)))
      have z175 : (σ76 9 0).toInt = (σ 9 0).toInt := (congrArg Int32.toInt (show σ76 9 0 = (σ 9 0) from ((congrFun (f78 9 (by decide)) 0).trans (congrFun (f52 9 (by decide)) 0))))
      have z176 : (σ76 55 15).toInt = (σ 55 15).toInt := (congrArg Int32.toInt (show σ76 55 15 = (σ 55 15) from ((f79 15 (by decide)).trans (congrFun (f52 55 (by decide)) 15))))
      have z177 : (σ76 16 0).toInt = (σ 16 0).toInt := (congrArg Int32.toInt (show σ76 16 0 = (σ 16 0) from ((congrFun (f78 16 (by decide)) 0).trans (congrFun (f52 16 (by decide)) 0))))
      have z178 : (σ76 55 10).toInt = (σ 55 10).toInt := (congrArg Int32.toInt (show σ76 55 10 = (σ 55 10) from ((f79 10 (by decide)).trans (congrFun (f52 55 (by decide)) 10))))
      have z179 : (σ76 16 1).toInt = (σ 16 1).toInt := (congrArg Int32.toInt (show σ76 16 1 = (σ 16 1) from ((congrFun (f78 16 (by decide)) 1).trans (congrFun (f52 16 (by decide)) 1))))
      have z180 : (σ76 55 12).toInt = (σ 55 12).toInt := (congrArg Int32.toInt (show σ76 55 12 = (σ 55 12) from ((f79 12 (by decide)).trans (congrFun (f52 55 (by decide)) 12))))
      have z181 : (σ76 16 2).toInt = (σ 16 2).toInt := (congrArg Int32.toInt (show σ76 16 2 = (σ 16 2) from ((congrFun (f78 16 (by decide)) 2).trans (congrFun (f52 16 (by decide)) 2))))
      have z182 : (σ76 55 13).toInt = (σ 55 13).toInt := (congrArg Int32.toInt (show σ76 55 13 = (σ 55 13) from ((f79 13 (by decide)).trans (congrFun (f52 55 (by decide)) 13))))
      have z183 : (σ76 38 0).toInt = (σ 38 0).toInt := (congrArg Int32.toInt (show σ76 38 0 = (σ 38 0) from ((congrFun (f78 38 (by decide)) 0).trans (congrFun (f52 38 (by decide)) 0))))
      have z184 : (σ76 55 32).toInt = (σ 55 32).toInt := (congrArg Int32.toInt (show σ76 55 32 = (σ 55 32) from ((f79 32 (by decide)).trans (congrFun (f52 55 (by decide)) 32))))
      have z185 : (σ76 47 0).toInt = (σ 47 0).toInt := (congrArg Int32.toInt (show σ76 47 0 = (σ 47 0) from ((congrFun (f78 47 (by decide)) 0).trans (congrFun (f52 47 (by decide)) 0))))
      have z186 : (σ76 55 47).toInt = (σ 55 47).toInt := (congrArg Int32.toInt (show σ76 55 47 = (σ 55 47) from ((f79 47 (by decide)).trans (congrFun (f52 55 (by decide)) 47))))
      have z187 : (σ76 55 30).toInt = (σ 55 30).toInt := (congrArg Int32.toInt (show σ76 55 30 = (σ 55 30) from ((f79 30 (by decide)).trans (congrFun (f52 55 (by decide)) 30))))
      have z188 : (σ76 55 31).toInt = (σ 55 31).toInt := (congrArg Int32.toInt (show σ76 55 31 = (σ 55 31) from ((f79 31 (by decide)).trans (congrFun (f52 55 (by decide)) 31))))
      exact ih x147 σ76 τ _ _ ls (by have h9 := tx147; omega) ⟨I148, I149, I150, I151, I152, I153, I154, I155, I156, I157, I158, I80, I159, I160, I161, I162, I163, I164, I165, I166, I167, I168, p169, p170, (by omega), (by omega), (by omega), (by omega), (by omega), (by omega), (by omega), (by omega), (by omega), (by omega), (by omega), (False.elim (by omega)), (False.elim (by omega)), (show jTp (σ76 10) (σ76 63) (σ76 55 15).toInt by rw [show σ76 10 = σ 10 from ((f78 10 (by decide)).trans (f52 10 (by decide))), show σ76 63 = σ 63 from ((f78 63 (by decide)).trans (f52 63 (by decide)))]; exact hr2.le (by omega)), (show jSo (σ76 17) (σ76 62) (σ76 16 0).toInt by rw [show σ76 17 = σ 17 from ((f78 17 (by decide)).trans (f52 17 (by decide))), show σ76 62 = σ 62 from ((f78 62 (by decide)).trans (f52 62 (by decide))), show (σ76 16 0).toInt = (σ 16 0).toInt from by omega]; exact hr3), (show jShP (σ76 51) (σ76 52) (σ76 53) (σ76 86) (σ76 87) (σ76 55 32).toInt by rw [show σ76 51 = σ 51 from ((f78 51 (by decide)).trans (f52 51 (by decide))), show σ76 52 = σ 52 from ((f78 52 (by decide)).trans (f52 52 (by decide))), show σ76 53 = σ 53 from ((f78 53 (by decide)).trans (f52 53 (by decide))), show σ76 86 = σ 86 from ((f78 86 (by decide)).trans (f52 86 (by decide))), show σ76 87 = σ 87 from ((f78 87 (by decide)).trans (f52 87 (by decide)))]; exact (hr4.up (by omega) (by omega))), (show jEl (σ76 51) (σ76 52) (τ 54) (τ 88) by rw [show σ76 51 = σ 51 from ((f78 51 (by decide)).trans (f52 51 (by decide))), show σ76 52 = σ 52 from ((f78 52 (by decide)).trans (f52 52 (by decide)))]; exact hr5), (show jByP (σ76 51) (σ76 52) (τ 54) by rw [show σ76 51 = σ 51 from ((f78 51 (by decide)).trans (f52 51 (by decide))), show σ76 52 = σ 52 from ((f78 52 (by decide)).trans (f52 52 (by decide)))]; exact hr6), (show jBk (σ76 48) (σ76 80) (σ76 49) (σ76 81) (σ76 55 47).toInt by rw [show σ76 48 = σ 48 from ((f78 48 (by decide)).trans (f52 48 (by decide))), show σ76 49 = σ 49 from ((f78 49 (by decide)).trans (f52 49 (by decide))), show σ76 80 = σ 80 from ((f78 80 (by decide)).trans (f52 80 (by decide))), show σ76 81 = σ 81 from ((f78 81 (by decide)).trans (f52 81 (by decide))), show (σ76 55 47).toInt = (σ 55 47).toInt from by omega]; exact hr7)⟩ hP hS (lv_sub hl [0, 1, 2, 3] rfl)
  · obtain ⟨q197, k190, k191, k192, k193, k194, k195, k196⟩ := h65
    refine lv_pop hx hb dL_law_754 rfl ?_
    refine lv_aload_n hx hb dL_law_755 rfl (lv_at hl 1 rfl) ?_
    refine lv_aload_n hx hb dL_law_756 rfl (lv_at hl 3 rfl) ?_
    refine lv_iload_n hx hb dL_law_757 rfl (lv_at hl 0 rfl) ?_
    refine lv_iconst (v := 1) hx hb dL_law_758 (by decide) ?_
    refine lv_iadd hx hb dL_law_759 ?_
    refine jtopr ex46.symm ?_
    refine va_sld hx hb hX hbl hbA hS (jin tx46 (by omega) (by omega)) dL_law_760 ?_
    refine lv_aload_n hx hb dL_law_761 rfl (lv_at hl 3 rfl) ?_
    refine lv_iload_n hx hb dL_law_762 rfl (lv_at hl 0 rfl) ?_
    refine lv_iconst (v := 2) hx hb dL_law_763 (by decide) ?_
    refine lv_iadd hx hb dL_law_764 ?_
    refine jtopr ex48.symm ?_
    refine va_sld hx hb hX hbl hbA hS (jin tx48 (by omega) (by omega)) dL_law_765 ?_
    have I198 : jI101 σ50 := jI101_fr (congrFun (f52 55 (by decide)) 4) (congrFun (f52 55 (by decide)) 5) (f52 56 (by decide)) (f52 57 (by decide)) (f52 58 (by decide)) (f52 59 (by decide)) hI101
    have I199 : jI102 σ50 := jI102_fr (congrFun (f52 55 (by decide)) 6) (f52 60 (by decide)) (f52 61 (by decide)) hI102
    have z200 : (σ50 55 6).toInt = (σ 55 6).toInt := (congrArg Int32.toInt (show σ50 55 6 = (σ 55 6) from (congrFun (f52 55 (by decide)) 6)))
    have z201 : (σ50 55 5).toInt = (σ 55 5).toInt := (congrArg Int32.toInt (show σ50 55 5 = (σ 55 5) from (congrFun (f52 55 (by decide)) 5)))
    have z202 : (σ50 55 4).toInt = (σ 55 4).toInt := (congrArg Int32.toInt (show σ50 55 4 = (σ 55 4) from (congrFun (f52 55 (by decide)) 4)))
    refine jcallV (As := [.int (xs x46.toNatClampNeg), .int (xs x48.toNatClampNeg)]) (rest := []) ⟨hx, hb, hml, hown, hts⟩ hK hP hA hS hZ (c_X12_learn l D cI cL ad zz hJ σ50 τ (xs x46.toNatClampNeg) ((xs x46.toNatClampNeg).toInt) rfl (xs x48.toNatClampNeg) ((xs x48.toNatClampNeg).toInt) rfl I198 I199) cw_RL_92 (jc_55 cI cL ad σ50 τ) rfl ⟨Nat.le_of_ble_eq_true rfl, Nat.le_of_ble_eq_true rfl⟩ rfl rfl rfl hl.1 rfl (Nat.le_of_ble_eq_true rfl) dL_law_766 ⟨Nat.le_of_ble_eq_true rfl, Nat.le_of_ble_eq_true rfl⟩ (fun r204 σ203 τ203 H locs h203 hP hS => ?_)
    obtain ⟨rfl, f205, f206, I207, h203⟩ := h203
    obtain ⟨i209, i210, i211, w212, w213, w214, w215⟩ : (0 ≤ (σ203 55 5).toInt) ∧ ((σ203 55 5).toInt ≤ (σ203 55 4).toInt) ∧ ((σ203 55 4).toInt ≤ 40) ∧ (∀ k : Nat, k < 68 → (-200) ≤ (σ203 56 k).toInt ∧ (σ203 56 k).toInt ≤ 500) ∧ (∀ k : Nat, k < 40 → 0 ≤ (σ203 57 k).toInt ∧ (σ203 57 k).toInt ≤ 67) ∧ (∀ k : Nat, k < 40 → (-200) ≤ (σ203 58 k).toInt ∧ (σ203 58 k).toInt ≤ 500) ∧ (∀ k : Nat, k < 40 → (-200) ≤ (σ203 59 k).toInt ∧ (σ203 59 k).toInt ≤ 500) := id I207
    rcases h203 with h216 | h217
    · obtain ⟨q222, k218, k219, k220, k221⟩ := h216
      have q222 := q222.symm
      subst q222
      refine lv_pop hx hb dL_law_769 rfl ?_
      refine lv_goto (tgt := 1357) hx hb dL_law_770 (by decide) ?_
      obtain ⟨x223, ex223⟩ : ∃ y : Int32, y = x0 + 6 := ⟨_, rfl⟩
      have tx223 : x223.toInt = x0.toInt + 6 := (jadd ex223 rfl jz_6 (by omega) (by omega)).trans (by omega)
      refine lv_iinc (v := x223) (lv' := [(3, .int x223), (2, .ref (ad 55)), (1, .ref (ad 0)), (0, .ref b)]) hx hb dL_law_1357 hl (k := 0) rfl (by rw [ex223]; rfl) (by decide) rfl (fun ls hl => ?_)
      refine lv_goto (tgt := 18) hx hb dL_law_1360 (by decide) ?_
      have I224 : jI2 σ203 := jI2_fr (congrFun (f205 2 (by decide)) 0) (congrFun (f205 2 (by decide)) 1) (congrFun (f205 2 (by decide)) 2) (congrFun (f205 2 (by decide)) 3) (f205 6 (by decide)) I54
      have I225 : jI9 σ203 := jI9_fr ((congrFun (f205 9 (by decide)) 0).trans (congrFun (f52 9 (by decide)) 0)) ((f205 10 (by decide)).trans (f52 10 (by decide))) ((f205 11 (by decide)).trans (f52 11 (by decide))) hI9
      have I226 : jI12 σ203 := jI12_fr ((congrFun (f205 12 (by decide)) 0).trans (congrFun (f52 12 (by decide)) 0)) ((f205 13 (by decide)).trans (f52 13 (by decide))) hI12
      have I227 : jI16 σ203 := jI16_fr ((congrFun (f205 16 (by decide)) 0).trans (congrFun (f52 16 (by decide)) 0)) ((congrFun (f205 16 (by decide)) 1).trans (congrFun (f52 16 (by decide)) 1)) ((congrFun (f205 16 (by decide)) 2).trans (congrFun (f52 16 (by decide)) 2)) ((f205 17 (by decide)).trans (f52 17 (by decide))) hI16
      have I228 : jI18 σ203 := jI18_fr ((congrFun (f205 18 (by decide)) 0).trans (congrFun (f52 18 (by decide)) 0)) ((f205 19 (by decide)).trans (f52 19 (by decide))) hI18
      have I229 : jI22 σ203 := jI22_fr ((congrFun (f205 22 (by decide)) 0).trans (congrFun (f52 22 (by decide)) 0)) ((f205 23 (by decide)).trans (f52 23 (by decide))) hI22
      have I230 : jI31 σ203 := jI31_fr ((congrFun (f205 31 (by decide)) 8).trans (congrFun (f52 31 (by decide)) 8)) ((f205 33 (by decide)).trans (f52 33 (by decide))) ((f205 36 (by decide)).trans (f52 36 (by decide))) hI31
      have I231 : jI38 σ203 := jI38_fr ((congrFun (f205 38 (by decide)) 0).trans (congrFun (f52 38 (by decide)) 0)) ((congrFun (f205 38 (by decide)) 1).trans (congrFun (f52 38 (by decide)) 1)) ((f205 39 (by decide)).trans (f52 39 (by decide))) hI38
      have I232 : jI43 σ203 := jI43_fr ((congrFun (f205 43 (by decide)) 8).trans (congrFun (f52 43 (by decide)) 8)) hI43
      have I233 : jI47 σ203 := jI47_fr ((congrFun (f205 47 (by decide)) 0).trans (congrFun (f52 47 (by decide)) 0)) ((f205 48 (by decide)).trans (f52 48 (by decide))) ((f205 49 (by decide)).trans (f52 49 (by decide))) hI47
      have I234 : jI50 σ203 := jI50_fr ((f205 52 (by decide)).trans (f52 52 (by decide))) hI50
      have I235 : jI102 σ203 := jI102_fr (f206 6 (by decide)) (f205 60 (by decide)) (f205 61 (by decide)) I199
      have I236 : jI103 σ203 := jI103_fr ((f206 9 (by decide)).trans (congrFun (f52 55 (by decide)) 9)) hI103
      have I237 : jI104 σ203 := jI104_fr ((f206 10 (by decide)).trans (congrFun (f52 55 (by decide)) 10)) ((f206 12 (by decide)).trans (congrFun (f52 55 (by decide)) 12)) ((f206 13 (by decide)).trans (congrFun (f52 55 (by decide)) 13)) ((f205 62 (by decide)).trans (f52 62 (by decide))) ((f205 67 (by decide)).trans (f52 67 (by decide))) hI104
      have I238 : jI105 σ203 := jI105_fr ((f206 15 (by decide)).trans (congrFun (f52 55 (by decide)) 15)) ((f205 65 (by decide)).trans (f52 65 (by decide))) hI105
      have I239 : jI106 σ203 := jI106_fr ((f206 32 (by decide)).trans (congrFun (f52 55 (by decide)) 32)) ((f205 70 (by decide)).trans (f52 70 (by decide))) ((f205 71 (by decide)).trans (f52 71 (by decide))) ((f205 72 (by decide)).trans (f52 72 (by decide))) hI106
      have I240 : jI107 σ203 := jI107_fr ((f206 12 (by decide)).trans (congrFun (f52 55 (by decide)) 12)) ((f206 47 (by decide)).trans (congrFun (f52 55 (by decide)) 47)) ((f205 80 (by decide)).trans (f52 80 (by decide))) hI107
      have I241 : jI109 σ203 := jI109_fr ((f206 50 (by decide)).trans (congrFun (f52 55 (by decide)) 50)) hI109
      have I242 : jI110 σ203 := jI110_fr ((f205 86 (by decide)).trans (f52 86 (by decide))) ((f205 87 (by decide)).trans (f52 87 (by decide))) hI110
      have I243 : jI111 σ203 := jI111_fr ((f205 79 (by decide)).trans (f52 79 (by decide))) hI111
      have I244 : jI119 σ203 := jI119_fr ((f205 68 (by decide)).trans (f52 68 (by decide))) hI119
      have p245 : jKept σ203 := jKept.fr ((f205 75 (by decide)).trans (f52 75 (by decide))) ((f205 76 (by decide)).trans (f52 76 (by decide))) ((f205 77 (by decide)).trans (f52 77 (by decide))) hs_jKept
      have p246 : jBook σ203 := jBook.fr ((f206 47 (by decide)).trans (congrFun (f52 55 (by decide)) 47)) ((f206 10 (by decide)).trans (congrFun (f52 55 (by decide)) 10)) ((f205 81 (by decide)).trans (f52 81 (by decide))) hs_jBook
      have z247 : (σ203 2 0).toInt = (σ 2 0).toInt := (congrArg Int32.toInt (show σ203 2 0 = (σ 2 0) from ((congrFun (f205 2 (by decide)) 0).trans (f53 0 (by decide)))))
      have z248 : (σ203 55 6).toInt = (σ 55 6).toInt := (congrArg Int32.toInt (show σ203 55 6 = (σ 55 6) from ((f206 6 (by decide)).trans (congrFun (f52 55 (by decide)) 6))))
      have z249 : (σ203 2 2).toInt = (σ50 2 2).toInt := (congrArg Int32.toInt (show σ203 2 2 = (σ50 2 2) from (congrFun (f205 2 (by decide)) 2)))
      have z250 : (σ203 2 3).toInt = (σ50 2 3).toInt := (congrArg Int32.toInt (show σ203 2 3 = (σ50 2 3) from (congrFun (f205 2 (by decide)) 3)))
      have z251 : (σ203 9 0).toInt = (σ 9 0).toInt := (congrArg Int32.toInt (show σ203 9 0 = (σ 9 0) from ((congrFun (f205 9 (by decide)) 0).trans (congrFun (f52 9 (by decide)) 0))))
      have z252 : (σ203 55 15).toInt = (σ 55 15).toInt := (congrArg Int32.toInt (show σ203 55 15 = (σ 55 15) from ((f206 15 (by decide)).trans (congrFun (f52 55 (by decide)) 15))))
      have z253 : (σ203 16 0).toInt = (σ 16 0).toInt := (congrArg Int32.toInt (show σ203 16 0 = (σ 16 0) from ((congrFun (f205 16 (by decide)) 0).trans (congrFun (f52 16 (by decide)) 0))))
      have z254 : (σ203 55 10).toInt = (σ 55 10).toInt := (congrArg Int32.toInt (show σ203 55 10 = (σ 55 10) from ((f206 10 (by decide)).trans (congrFun (f52 55 (by decide)) 10))))
      have z255 : (σ203 16 1).toInt = (σ 16 1).toInt := (congrArg Int32.toInt (show σ203 16 1 = (σ 16 1) from ((congrFun (f205 16 (by decide)) 1).trans (congrFun (f52 16 (by decide)) 1))))
      have z256 : (σ203 55 12).toInt = (σ 55 12).toInt := (congrArg Int32.toInt (show σ203 55 12 = (σ 55 12) from ((f206 12 (by decide)).trans (congrFun (f52 55 (by decide)) 12))))
      have z257 : (σ203 16 2).toInt = (σ 16 2).toInt := (congrArg Int32.toInt (show σ203 16 2 = (σ 16 2) from ((congrFun (f205 16 (by decide)) 2).trans (congrFun (f52 16 (by decide)) 2))))
      have z258 : (σ203 55 13).toInt = (σ 55 13).toInt := (congrArg Int32.toInt (show σ203 55 13 = (σ 55 13) from ((f206 13 (by decide)).trans (congrFun (f52 55 (by decide)) 13))))
      have z259 : (σ203 38 0).toInt = (σ 38 0).toInt := (congrArg Int32.toInt (show σ203 38 0 = (σ 38 0) from ((congrFun (f205 38 (by decide)) 0).trans (congrFun (f52 38 (by decide)) 0))))
      have z260 : (σ203 55 32).toInt = (σ 55 32).toInt := (congrArg Int32.toInt (show σ203 55 32 = (σ 55 32) from ((f206 32 (by decide)).trans (congrFun (f52 55 (by decide)) 32))))
      have z261 : (σ203 47 0).toInt = (σ 47 0).toInt := (congrArg Int32.toInt (show σ203 47 0 = (σ 47 0) from ((congrFun (f205 47 (by decide)) 0).trans (congrFun (f52 47 (by decide)) 0))))
      have z262 : (σ203 55 47).toInt = (σ 55 47).toInt := (congrArg Int32.toInt (show σ203 55 47 = (σ 55 47) from ((f206 47 (by decide)).trans (congrFun (f52 55 (by decide)) 47))))
      have z263 : (σ203 55 30).toInt = (σ 55 30).toInt := (congrArg Int32.toInt (show σ203 55 30 = (σ 55 30) from ((f206 30 (by decide)).trans (congrFun (f52 55 (by decide)) 30))))
      have z264 : (σ203 55 31).toInt = (σ 55 31).toInt := (congrArg Int32.toInt (show σ203 55 31 = (σ 55 31) from ((f206 31 (by decide)).trans (congrFun (f52 55 (by decide)) 31))))
      exact ih x223 σ203 τ _ _ ls (by have h9 := tx223; omega) ⟨I224, I225, I226, I227, I228, I229, I230, I231, I232, I233, I234, I207, I235, I236, I237, I238, I239, I240, I241, I242, I243, I244, p245, p246, (by omega), (by omega), (by omega), (by omega), (by omega), (by omega), (by omega), (by omega), (by omega), (by omega), (by omega), (False.elim (by omega)), (False.elim (by omega)), (show jTp (σ203 10) (σ203 63) (σ203 55 15).toInt by rw [show σ203 10 = σ 10 from ((f205 10 (by decide)).trans (f52 10 (by decide))), show σ203 63 = σ 63 from ((f205 63 (by decide)).trans (f52 63 (by decide)))]; exact hr2.le (by omega)), (show jSo (σ203 17) (σ203 62) (σ203 16 0).toInt by rw [show σ203 17 = σ 17 from ((f205 17 (by decide)).trans (f52 17 (by decide))), show σ203 62 = σ 62 from ((f205 62 (by decide)).trans (f52 62 (by decide))), show (σ203 16 0).toInt = (σ 16 0).toInt from by omega]; exact hr3), (show jShP (σ203 51) (σ203 52) (σ203 53) (σ203 86) (σ203 87) (σ203 55 32).toInt by rw [show σ203 51 = σ 51 from ((f205 51 (by decide)).trans (f52 51 (by decide))), show σ203 52 = σ 52 from ((f205 52 (by decide)).trans (f52 52 (by decide))), show σ203 53 = σ 53 from ((f205 53 (by decide)).trans (f52 53 (by decide))), show σ203 86 = σ 86 from ((f205 86 (by decide)).trans (f52 86 (by decide))), show σ203 87 = σ 87 from ((f205 87 (by decide)).trans (f52 87 (by decide)))]; exact (hr4.up (by omega) (by omega))), (show jEl (σ203 51) (σ203 52) (τ 54) (τ 88) by rw [show σ203 51 = σ 51 from ((f205 51 (by decide)).trans (f52 51 (by decide))), show σ203 52 = σ 52 from ((f205 52 (by decide)).trans (f52 52 (by decide)))]; exact hr5), (show jByP (σ203 51) (σ203 52) (τ 54) by rw [show σ203 51 = σ 51 from ((f205 51 (by decide)).trans (f52 51 (by decide))), show σ203 52 = σ 52 from ((f205 52 (by decide)).trans (f52 52 (by decide)))]; exact hr6), (show jBk (σ203 48) (σ203 80) (σ203 49) (σ203 81) (σ203 55 47).toInt by rw [show σ203 48 = σ 48 from ((f205 48 (by decide)).trans (f52 48 (by decide))), show σ203 49 = σ 49 from ((f205 49 (by decide)).trans (f52 49 (by decide))), show σ203 80 = σ 80 from ((f205 80 (by decide)).trans (f52 80 (by decide))), show σ203 81 = σ 81 from ((f205 81 (by decide)).trans (f52 81 (by decide))), show (σ203 55 47).toInt = (σ 55 47).toInt from by omega]; exact hr7)⟩ hP hS (lv_sub hl [0, 1, 2, 3] rfl)
    · obtain ⟨q273, k266, k267, k268, k269, k270, k271, k272⟩ := h217
      refine lv_pop hx hb dL_law_769 rfl ?_
      refine lv_goto (tgt := 1357) hx hb dL_law_770 (by decide) ?_
      obtain ⟨x274, ex274⟩ : ∃ y : Int32, y = x0 + 6 := ⟨_, rfl⟩
      have tx274 : x274.toInt = x0.toInt + 6 := (jadd ex274 rfl jz_6 (by omega) (by omega)).trans (by omega)
      refine lv_iinc (v := x274) (lv' := [(3, .int x274), (2, .ref (ad 55)), (1, .ref (ad 0)), (0, .ref b)]) hx hb dL_law_1357 hl (k := 0) rfl (by rw [ex274]; rfl) (by decide) rfl (fun ls hl => ?_)
      refine lv_goto (tgt := 18) hx hb dL_law_1360 (by decide) ?_
      have I275 : jI2 σ203 := jI2_fr (congrFun (f205 2 (by decide)) 0) (congrFun (f205 2 (by decide)) 1) (congrFun (f205 2 (by decide)) 2) (congrFun (f205 2 (by decide)) 3) (f205 6 (by decide)) I54
      have I276 : jI9 σ203 := jI9_fr ((congrFun (f205 9 (by decide)) 0).trans (congrFun (f52 9 (by decide)) 0)) ((f205 10 (by decide)).trans (f52 10 (by decide))) ((f205 11 (by decide)).trans (f52 11 (by decide))) hI9
      have I277 : jI12 σ203 := jI12_fr ((congrFun (f205 12 (by decide)) 0).trans (congrFun (f52 12 (by decide)) 0)) ((f205 13 (by decide)).trans (f52 13 (by decide))) hI12
      have I278 : jI16 σ203 := jI16_fr ((congrFun (f205 16 (by decide)) 0).trans (congrFun (f52 16 (by decide)) 0)) ((congrFun (f205 16 (by decide)) 1).trans (congrFun (f52 16 (by decide)) 1)) ((congrFun (f205 16 (by decide)) 2).trans (congrFun (f52 16 (by decide)) 2)) ((f205 17 (by decide)).trans (f52 17 (by decide))) hI16
      have I279 : jI18 σ203 := jI18_fr ((congrFun (f205 18 (by decide)) 0).trans (congrFun (f52 18 (by decide)) 0)) ((f205 19 (by decide)).trans (f52 19 (by decide))) hI18
      have I280 : jI22 σ203 := jI22_fr ((congrFun (f205 22 (by decide)) 0).trans (congrFun (f52 22 (by decide)) 0)) ((f205 23 (by decide)).trans (f52 23 (by decide))) hI22
      have I281 : jI31 σ203 := jI31_fr ((congrFun (f205 31 (by decide)) 8).trans (congrFun (f52 31 (by decide)) 8)) ((f205 33 (by decide)).trans (f52 33 (by decide))) ((f205 36 (by decide)).trans (f52 36 (by decide))) hI31
      have I282 : jI38 σ203 := jI38_fr ((congrFun (f205 38 (by decide)) 0).trans (congrFun (f52 38 (by decide)) 0)) ((congrFun (f205 38 (by decide)) 1).trans (congrFun (f52 38 (by decide)) 1)) ((f205 39 (by decide)).trans (f52 39 (by decide))) hI38
      have I283 : jI43 σ203 := jI43_fr ((congrFun (f205 43 (by decide)) 8).trans (congrFun (f52 43 (by decide)) 8)) hI43
      have I284 : jI47 σ203 := jI47_fr ((congrFun (f205 47 (by decide)) 0).trans (congrFun (f52 47 (by decide)) 0)) ((f205 48 (by decide)).trans (f52 48 (by decide))) ((f205 49 (by decide)).trans (f52 49 (by decide))) hI47
      have I285 : jI50 σ203 := jI50_fr ((f205 52 (by decide)).trans (f52 52 (by decide))) hI50
      have I286 : jI102 σ203 := jI102_fr (f206 6 (by decide)) (f205 60 (by decide)) (f205 61 (by decide)) I199
      have I287 : jI103 σ203 := jI103_fr ((f206 9 (by decide)).trans (congrFun (f52 55 (by decide)) 9)) hI103
      have I288 : jI104 σ203 := jI104_fr ((f206 10 (by decide)).trans (congrFun (f52 55 (by decide)) 10)) ((f206 12 (by decide)).trans (congrFun (f52 55 (by decide)) 12)) ((f206 13 (by decide)).trans (congrFun (f52 55 (by decide)) 13)) ((f205 62 (by decide)).trans (f52 62 (by decide))) ((f205 67 (by decide)).trans (f52 67 (by decide))) hI104
      have I289 : jI105 σ203 := jI105_fr ((f206 15 (by decide)).trans (congrFun (f52 55 (by decide)) 15)) ((f205 65 (by decide)).trans (f52 65 (by decide))) hI105
      have I290 : jI106 σ203 := jI106_fr ((f206 32 (by decide)).trans (congrFun (f52 55 (by decide)) 32)) ((f205 70 (by decide)).trans (f52 70 (by decide))) ((f205 71 (by decide)).trans (f52 71 (by decide))) ((f205 72 (by decide)).trans (f52 72 (by decide))) hI106
      have I291 : jI107 σ203 := jI107_fr ((f206 12 (by decide)).trans (congrFun (f52 55 (by decide)) 12)) ((f206 47 (by decide)).trans (congrFun (f52 55 (by decide)) 47)) ((f205 80 (by decide)).trans (f52 80 (by decide))) hI107
      have I292 : jI109 σ203 := jI109_fr ((f206 50 (by decide)).trans (congrFun (f52 55 (by decide)) 50)) hI109
      have I293 : jI110 σ203 := jI110_fr ((f205 86 (by decide)).trans (f52 86 (by decide))) ((f205 87 (by decide)).trans (f52 87 (by decide))) hI110
      have I294 : jI111 σ203 := jI111_fr ((f205 79 (by decide)).trans (f52 79 (by decide))) hI111
      have I295 : jI119 σ203 := jI119_fr ((f205 68 (by decide)).trans (f52 68 (by decide))) hI119
      have p296 : jKept σ203 := jKept.fr ((f205 75 (by decide)).trans (f52 75 (by decide))) ((f205 76 (by decide)).trans (f52 76 (by decide))) ((f205 77 (by decide)).trans (f52 77 (by decide))) hs_jKept
      have p297 : jBook σ203 := jBook.fr ((f206 47 (by decide)).trans (congrFun (f52 55 (by decide)) 47)) ((f206 10 (by decide)).trans (congrFun (f52 55 (by decide)) 10)) ((f205 81 (by decide)).trans (f52 81 (by decide))) hs_jBook
      have z298 : (σ203 2 0).toInt = (σ 2 0).toInt := (congrArg Int32.toInt (show σ203 2 0 = (σ 2 0) from ((congrFun (f205 2 (by decide)) 0).trans (f53 0 (by decide)))))
      have z299 : (σ203 55 6).toInt = (σ 55 6).toInt := (congrArg Int32.toInt (show σ203 55 6 = (σ 55 6) from ((f206 6 (by decide)).trans (congrFun (f52 55 (by decide)) 6))))
      have z300 : (σ203 2 2).toInt = (σ50 2 2).toInt := (congrArg Int32.toInt (show σ203 2 2 = (σ50 2 2) from (congrFun (f205 2 (by decide)) 2)))
      have z301 : (σ203 2 3).toInt = (σ50 2 3).toInt := (congrArg Int32.toInt (show σ203 2 3 = (σ50 2 3) from (congrFun (f205 2 (by decide)) 3)))
      have z302 : (σ203 9 0).toInt = (σ 9 0).toInt := (congrArg Int32.toInt (show σ203 9 0 = (σ 9 0) from ((congrFun (f205 9 (by decide)) 0).trans (congrFun (f52 9 (by decide)) 0))))
      have z303 : (σ203 55 15).toInt = (σ 55 15).toInt := (congrArg Int32.toInt (show σ203 55 15 = (σ 55 15) from ((f206 15 (by decide)).trans (congrFun (f52 55 (by decide)) 15))))
      have z304 : (σ203 16 0).toInt = (σ 16 0).toInt := (congrArg Int32.toInt (show σ203 16 0 = (σ 16 0) from ((congrFun (f205 16 (by decide)) 0).trans (congrFun (f52 16 (by decide)) 0))))
      have z305 : (σ203 55 10).toInt = (σ 55 10).toInt := (congrArg Int32.toInt (show σ203 55 10 = (σ 55 10) from ((f206 10 (by decide)).trans (congrFun (f52 55 (by decide)) 10))))
      have z306 : (σ203 16 1).toInt = (σ 16 1).toInt := (congrArg Int32.toInt (show σ203 16 1 = (σ 16 1) from ((congrFun (f205 16 (by decide)) 1).trans (congrFun (f52 16 (by decide)) 1))))
      have z307 : (σ203 55 12).toInt = (σ 55 12).toInt := (congrArg Int32.toInt (show σ203 55 12 = (σ 55 12) from ((f206 12 (by decide)).trans (congrFun (f52 55 (by decide)) 12))))
      have z308 : (σ203 16 2).toInt = (σ 16 2).toInt := (congrArg Int32.toInt (show σ203 16 2 = (σ 16 2) from ((congrFun (f205 16 (by decide)) 2).trans (congrFun (f52 16 (by decide)) 2))))
      have z309 : (σ203 55 13).toInt = (σ 55 13).toInt := (congrArg Int32.toInt (show σ203 55 13 = (σ 55 13) from ((f206 13 (by decide)).trans (congrFun (f52 55 (by decide)) 13))))
      have z310 : (σ203 38 0).toInt = (σ 38 0).toInt := (congrArg Int32.toInt (show σ203 38 0 = (σ 38 0) from ((congrFun (f205 38 (by decide)) 0).trans (congrFun (f52 38 (by decide)) 0))))
      have z311 : (σ203 55 32).toInt = (σ 55 32).toInt := (congrArg Int32.toInt (show σ203 55 32 = (σ 55 32) from ((f206 32 (by decide)).trans (congrFun (f52 55 (by decide)) 32))))
      have z312 : (σ203 47 0).toInt = (σ 47 0).toInt := (congrArg Int32.toInt (show σ203 47 0 = (σ 47 0) from ((congrFun (f205 47 (by decide)) 0).trans (congrFun (f52 47 (by decide)) 0))))
      have z313 : (σ203 55 47).toInt = (σ 55 47).toInt := (congrArg Int32.toInt (show σ203 55 47 = (σ 55 47) from ((f206 47 (by decide)).trans (congrFun (f52 55 (by decide)) 47))))
      have z314 : (σ203 55 30).toInt = (σ 55 30).toInt := (congrArg Int32.toInt (show σ203 55 30 = (σ 55 30) from ((f206 30 (by decide)).trans (congrFun (f52 55 (by decide)) 30))))
      have z315 : (σ203 55 31).toInt = (σ 55 31).toInt := (congrArg Int32.toInt (show σ203 55 31 = (σ 55 31) from ((f206 31 (by decide)).trans (congrFun (f52 55 (by decide)) 31))))
      obtain ⟨q316, w318, e320, c322⟩ := k196
      obtain ⟨q317, w319, e321, c323⟩ := k272
      rw [show σ50 56 = σ 56 from (f52 56 (by decide)), show σ50 57 = σ 57 from (f52 57 (by decide)), show σ50 58 = σ 58 from (f52 58 (by decide)), show σ50 59 = σ 59 from (f52 59 (by decide)), show r204 = r51 from jsame (rfl : r204.toInt = r204.toInt) (rfl : r51.toInt = r51.toInt) (by omega), show (σ50 55 4).toInt = (σ 55 4).toInt from by omega] at c323
      have k324 := hr0.chg (by omega) (by omega) c322 c323 (by omega) (by omega) (by omega) (by omega)
      have e320 := k324.2.1
      have e321 := k324.2.2
      exact ih x274 σ203 τ _ _ ls (by have h9 := tx274; omega) ⟨I275, I276, I277, I278, I279, I280, I281, I282, I283, I284, I285, I207, I286, I287, I288, I289, I290, I291, I292, I293, I294, I295, p296, p297, (by omega), (by omega), (by omega), (by omega), (by omega), (by omega), (by omega), (by omega), (by omega), (by omega), (by omega), (show jNumP (σ203 3) (σ203 56) (σ203 6) (σ203 57) (σ203 7) (σ203 58) (σ203 8) (σ203 59) (σ203 55 6).toInt (σ203 55 4).toInt by rw [show σ203 3 = σ50 3 from (f205 3 (by decide)), show σ203 6 = σ50 6 from (f205 6 (by decide)), show σ203 7 = σ50 7 from (f205 7 (by decide)), show σ203 8 = σ50 8 from (f205 8 (by decide)), show (σ203 55 6).toInt = (σ 55 6).toInt from by omega]; exact k324.1), (hr1.chg c323 (by omega) (by omega) (fun x y => by omega)), (show jTp (σ203 10) (σ203 63) (σ203 55 15).toInt by rw [show σ203 10 = σ 10 from ((f205 10 (by decide)).trans (f52 10 (by decide))), show σ203 63 = σ 63 from ((f205 63 (by decide)).trans (f52 63 (by decide)))]; exact hr2.le (by omega)), (show jSo (σ203 17) (σ203 62) (σ203 16 0).toInt by rw [show σ203 17 = σ 17 from ((f205 17 (by decide)).trans (f52 17 (by decide))), show σ203 62 = σ 62 from ((f205 62 (by decide)).trans (f52 62 (by decide))), show (σ203 16 0).toInt = (σ 16 0).toInt from by omega]; exact hr3), (show jShP (σ203 51) (σ203 52) (σ203 53) (σ203 86) (σ203 87) (σ203 55 32).toInt by rw [show σ203 51 = σ 51 from ((f205 51 (by decide)).trans (f52 51 (by decide))), show σ203 52 = σ 52 from ((f205 52 (by decide)).trans (f52 52 (by decide))), show σ203 53 = σ 53 from ((f205 53 (by decide)).trans (f52 53 (by decide))), show σ203 86 = σ 86 from ((f205 86 (by decide)).trans (f52 86 (by decide))), show σ203 87 = σ 87 from ((f205 87 (by decide)).trans (f52 87 (by decide)))]; exact (hr4.up (by omega) (by omega))), (show jEl (σ203 51) (σ203 52) (τ 54) (τ 88) by rw [show σ203 51 = σ 51 from ((f205 51 (by decide)).trans (f52 51 (by decide))), show σ203 52 = σ 52 from ((f205 52 (by decide)).trans (f52 52 (by decide)))]; exact hr5), (show jByP (σ203 51) (σ203 52) (τ 54) by rw [show σ203 51 = σ 51 from ((f205 51 (by decide)).trans (f52 51 (by decide))), show σ203 52 = σ 52 from ((f205 52 (by decide)).trans (f52 52 (by decide)))]; exact hr6), (show jBk (σ203 48) (σ203 80) (σ203 49) (σ203 81) (σ203 55 47).toInt by rw [show σ203 48 = σ 48 from ((f205 48 (by decide)).trans (f52 48 (by decide))), show σ203 49 = σ 49 from ((f205 49 (by decide)).trans (f52 49 (by decide))), show σ203 80 = σ 80 from ((f205 80 (by decide)).trans (f52 80 (by decide))), show σ203 81 = σ 81 from ((f205 81 (by decide)).trans (f52 81 (by decide))), show (σ203 55 47).toInt = (σ 55 47).toInt from by omega]; exact hr7)⟩ hP hS (lv_sub hl [0, 1, 2, 3] rfl)
