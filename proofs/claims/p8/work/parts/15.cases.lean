set_option maxHeartbeats 4000000 in
set_option maxRecDepth 100000 in
theorem law_case_0 {p : Program} {e : Env} {s : State} {m : MethodId} {below : List Frame} {meth : Method} {c : Code} (l : Launch) {b L : Nat} {xs : Nat → Int32} {D : va_G} {cI cL : ClassId} {ad zz : Nat → Nat} (C0 : lw_At p s m meth c b L xs) (hJ : jD ad) (hA : ∀ q, jA ad q → s.heap.size ≤ q) (hK : jK D cI cL s) (hZ : jZ zz (fun q : Nat => s.heap.size ≤ q) s s.heap) {x0 : Int32} (hx0 : 0 ≤ x0.toInt) (hxL : x0.toInt + 6 ≤ (L : Int)) (hL : L ≤ 384) {σ : Nat → Nat → Int32} {τ : Nat → Nat → Int64} {H : Heap} {locs : List Loc} (hS : va_S (fun q : Nat => s.heap.size ≤ q) s.heap H locs) {ls : Array Slot} (hAll : jAll x0.toInt σ τ) (hP : jH D cI cL ad σ τ H) (hl : lv_has ls 4 [(3, .int x0), (2, .ref (ad 55)), (1, .ref (ad 0)), (0, .ref b)]) (ih : ∀ (x1 : Int32) (σ : Nat → Nat → Int32) (τ : Nat → Nat → Int64) (H : Heap) (locs : List Loc) (ls : Array Slot), x1.toInt = x0.toInt + 6 → jAll x1.toInt σ τ → jH D cI cL ad σ τ H → va_S (fun q : Nat => s.heap.size ≤ q) s.heap H locs → lv_has ls 4 [(3, .int x1), (2, .ref (ad 55)), (1, .ref (ad 0)), (0, .ref b)] → W p l e room_1 s m #[Value.ref b] below meth c H locs 90 348600 (lw_Z below #[Value.ref b] s) (F0 m 18 ls [])) : W p l e room_1 s m #[Value.ref b] below meth c H locs 90 348600 (lw_Z below #[Value.ref b] s) (F0 m 196 ls []) := by
  obtain ⟨hx, hb, hr, hml, hown, hts0, hX, hbl, hlocks, hgv⟩ := C0
  have hts : ∀ w ∈ wsL_law, w.before #[Value.ref b] s = true := fun w h => hts0 w (wsL_law_in w h)
  have hbA : ¬ (fun q : Nat => s.heap.size ≤ q) b := Nat.not_le.mpr hbl
  have hown : s.vm.findClass RL = some m.cls := hown
  obtain ⟨hI2, hI9, hI12, hI16, hI18, hI22, hI31, hI38, hI43, hI47, hI50, hI0, hI26, hI101, hI102, hI103, hI104, hI105, hI106, hI107, hI109, hI110, hI111, hI119, hs_jKept, hs_jBook, hs_jNd12, hs_jN67, hs_jBl, hs_jKb, hs_jTR, hs_jKh, hs_jKg, ht0, ht1, ht2, ht3, ht4, ht5, ht6, ht7, ht8, ht9, ht10, ht11, ht12, ht13, hr0, hr1, hr2, hr3, hr4, hr5, hr6, hr7, hr8, hr9, hr10, hr11, hr12⟩ := hAll
  have hL9 : (L : Int) ≤ 384 := by omega
  obtain ⟨i1, i2, i3, i4, i5, w6⟩ : (0 ≤ (σ 2 0).toInt ∧ (σ 2 0).toInt ≤ 4) ∧ (0 ≤ (σ 2 1).toInt ∧ (σ 2 1).toInt ≤ 3) ∧ (0 ≤ (σ 2 2).toInt) ∧ (0 ≤ (σ 2 3).toInt) ∧ ((σ 2 2).toInt + (σ 2 3).toInt ≤ 40) ∧ (∀ k : Nat, k < 40 → 0 ≤ (σ 6 k).toInt ∧ (σ 6 k).toInt ≤ 67) := id hI2
  obtain ⟨i7, w8, w9⟩ : (0 ≤ (σ 9 0).toInt ∧ (σ 9 0).toInt ≤ 80) ∧ (∀ k : Nat, k < 80 → 0 ≤ (σ 10 k).toInt ∧ (σ 10 k).toInt ≤ 255) ∧ (∀ k : Nat, k < 8 → 0 ≤ (σ 11 k).toInt ∧ (σ 11 k).toInt ≤ 3) := id hI9
  obtain ⟨i10, i11, i12, w13⟩ : (1 ≤ (σ 16 0).toInt ∧ (σ 16 0).toInt ≤ 8) ∧ (1 ≤ (σ 16 1).toInt ∧ (σ 16 1).toInt ≤ 12) ∧ (0 ≤ (σ 16 2).toInt ∧ (σ 16 2).toInt ≤ 999) ∧ (∀ k : Nat, k < 8 → 0 ≤ (σ 17 k).toInt ∧ (σ 17 k).toInt ≤ 3) := id hI16
  obtain ⟨i14, i15, w16⟩ : (0 ≤ (σ 38 0).toInt ∧ (σ 38 0).toInt ≤ 20) ∧ (0 ≤ (σ 38 1).toInt ∧ (σ 38 1).toInt ≤ 1000) ∧ (∀ k : Nat, k < 20 → 0 ≤ (σ 39 k).toInt ∧ (σ 39 k).toInt ≤ 6) := id hI38
  obtain ⟨i17, w18, w19⟩ : (0 ≤ (σ 47 0).toInt ∧ (σ 47 0).toInt ≤ 12) ∧ (∀ k : Nat, k < 12 → 0 ≤ (σ 48 k).toInt ∧ (σ 48 k).toInt ≤ 3) ∧ (∀ k : Nat, k < 12 → 0 ≤ (σ 49 k).toInt ∧ (σ 49 k).toInt ≤ 1) := id hI47
  have w20 : ∀ k : Nat, k < 6 → 0 ≤ (σ 52 k).toInt ∧ (σ 52 k).toInt ≤ 60 := hI50
  have i21 : 1 ≤ (σ 26 6).toInt ∧ (σ 26 6).toInt ≤ 8000 := hI26
  obtain ⟨i22, i23, i24, w25, w26, w27, w28⟩ : (0 ≤ (σ 55 5).toInt) ∧ ((σ 55 5).toInt ≤ (σ 55 4).toInt) ∧ ((σ 55 4).toInt ≤ 40) ∧ (∀ k : Nat, k < 68 → (-200) ≤ (σ 56 k).toInt ∧ (σ 56 k).toInt ≤ 500) ∧ (∀ k : Nat, k < 40 → 0 ≤ (σ 57 k).toInt ∧ (σ 57 k).toInt ≤ 67) ∧ (∀ k : Nat, k < 40 → (-200) ≤ (σ 58 k).toInt ∧ (σ 58 k).toInt ≤ 500) ∧ (∀ k : Nat, k < 40 → (-200) ≤ (σ 59 k).toInt ∧ (σ 59 k).toInt ≤ 500) := id hI101
  obtain ⟨i29, w30, w31⟩ : (0 ≤ (σ 55 6).toInt ∧ (σ 55 6).toInt ≤ 4) ∧ (∀ k : Nat, k < 4 → 0 ≤ (σ 60 k).toInt ∧ (σ 60 k).toInt ≤ 50) ∧ (∀ k : Nat, k < 4 → 0 ≤ (σ 61 k).toInt ∧ (σ 61 k).toInt ≤ 20) := id hI102
  have i32 : 0 ≤ (σ 55 9).toInt ∧ (σ 55 9).toInt ≤ 3 := hI103
  obtain ⟨i33, i34, i35, w36, w37⟩ : (1 ≤ (σ 55 10).toInt ∧ (σ 55 10).toInt ≤ 8) ∧ (1 ≤ (σ 55 12).toInt ∧ (σ 55 12).toInt ≤ 12) ∧ (0 ≤ (σ 55 13).toInt ∧ (σ 55 13).toInt ≤ 999) ∧ (∀ k : Nat, k < 8 → 0 ≤ (σ 62 k).toInt ∧ (σ 62 k).toInt ≤ 3) ∧ (∀ k : Nat, k < 8 → 0 ≤ (σ 67 k).toInt ∧ (σ 67 k).toInt ≤ 3) := id hI104
  obtain ⟨i38, w39⟩ : (0 ≤ (σ 55 15).toInt ∧ (σ 55 15).toInt ≤ 80) ∧ (∀ k : Nat, k < 2 → (-1) ≤ (σ 65 k).toInt ∧ (σ 65 k).toInt ≤ 80) := id hI105
  obtain ⟨i40, w41, w42, w43⟩ : (0 ≤ (σ 55 32).toInt ∧ (σ 55 32).toInt ≤ 20) ∧ (∀ k : Nat, k < 20 → 0 ≤ (σ 70 k).toInt ∧ (σ 70 k).toInt ≤ 6) ∧ (∀ k : Nat, k < 20 → 0 ≤ (σ 71 k).toInt ∧ (σ 71 k).toInt ≤ 8) ∧ (∀ k : Nat, k < 160 → 0 ≤ (σ 72 k).toInt ∧ (σ 72 k).toInt ≤ 3) := id hI106
  obtain ⟨i44, i45, w46⟩ : (0 ≤ (σ 55 47).toInt ∧ (σ 55 47).toInt ≤ 12) ∧ ((σ 55 47).toInt ≤ (σ 55 12).toInt) ∧ (∀ k : Nat, k < 12 → 0 ≤ (σ 80 k).toInt ∧ (σ 80 k).toInt ≤ 3) := id hI107
  have hs_jOk3 : jOk3 σ := hr0.ok hr1.1
  refine lv_aload_n hx hb dL_law_196 rfl (lv_at hl 2 rfl) ?_
  refine lv_aload_n hx hb dL_law_197 rfl (lv_at hl 3 rfl) ?_
  refine lv_iload_n hx hb dL_law_198 rfl (lv_at hl 0 rfl) ?_
  refine lv_iconst (v := 1) hx hb dL_law_199 (by decide) ?_
  have g47 := jrg (rfl : x0.toInt = x0.toInt)
  refine lv_iadd hx hb dL_law_200 ?_
  refine lv_topi (fun x48 ex48 => ?_)
  have tx48 : x48.toInt = x0.toInt + 1 := (jadd ex48 rfl jz_1 (by omega) (by omega)).trans (by omega)
  refine va_sld hx hb hX hbl hbA hS (jin tx48 (by omega) (by omega)) dL_law_201 ?_
  have g49 := jrg (rfl : (xs x48.toNatClampNeg).toInt = (xs x48.toNatClampNeg).toInt)
  refine lv_aload_n hx hb dL_law_202 rfl (lv_at hl 3 rfl) ?_
  refine lv_iload_n hx hb dL_law_203 rfl (lv_at hl 0 rfl) ?_
  refine lv_iconst (v := 2) hx hb dL_law_204 (by decide) ?_
  refine lv_iadd hx hb dL_law_205 ?_
  refine lv_topi (fun x50 ex50 => ?_)
  have tx50 : x50.toInt = x0.toInt + 2 := (jadd ex50 rfl jz_2 (by omega) (by omega)).trans (by omega)
  refine va_sld hx hb hX hbl hbA hS (jin tx50 (by omega) (by omega)) dL_law_206 ?_
  have g51 := jrg (rfl : (xs x50.toNatClampNeg).toInt = (xs x50.toNatClampNeg).toInt)
  refine lv_aload_n hx hb dL_law_207 rfl (lv_at hl 3 rfl) ?_
  refine lv_iload_n hx hb dL_law_208 rfl (lv_at hl 0 rfl) ?_
  refine lv_iconst (v := 3) hx hb dL_law_209 (by decide) ?_
  refine lv_iadd hx hb dL_law_210 ?_
  refine lv_topi (fun x52 ex52 => ?_)
  have tx52 : x52.toInt = x0.toInt + 3 := (jadd ex52 rfl jz_3 (by omega) (by omega)).trans (by omega)
  refine va_sld hx hb hX hbl hbA hS (jin tx52 (by omega) (by omega)) dL_law_211 ?_
  have g53 := jrg (rfl : (xs x52.toNatClampNeg).toInt = (xs x52.toNatClampNeg).toInt)
  refine jcallV (As := [.int (xs x48.toNatClampNeg), .int (xs x50.toNatClampNeg), .int (xs x52.toNatClampNeg)]) (rest := []) ⟨hx, hb, hml, hown, hts⟩ hK hP hA hS hZ (c_X11_bowler l D cI cL ad zz hJ σ τ (xs x48.toNatClampNeg) ((xs x48.toNatClampNeg).toInt) rfl (xs x50.toNatClampNeg) ((xs x50.toNatClampNeg).toInt) rfl (xs x52.toNatClampNeg) ((xs x52.toNatClampNeg).toInt) rfl hI2) cw_RL_13 (jc_0 cI cL ad σ τ) rfl ⟨Nat.le_of_ble_eq_true rfl, Nat.le_of_ble_eq_true rfl⟩ rfl rfl rfl hl.1 rfl (Nat.le_of_ble_eq_true rfl) dL_law_212 ⟨Nat.le_of_ble_eq_true rfl, Nat.le_of_ble_eq_true rfl⟩ (fun r55 σ54 τ54 H locs h54 hP hS => ?_)
  obtain ⟨rfl, f56, f57, I58, h54⟩ := h54
  obtain ⟨i60, i61, i62, i63, i64, w65⟩ : (0 ≤ (σ54 2 0).toInt ∧ (σ54 2 0).toInt ≤ 4) ∧ (0 ≤ (σ54 2 1).toInt ∧ (σ54 2 1).toInt ≤ 3) ∧ (0 ≤ (σ54 2 2).toInt) ∧ (0 ≤ (σ54 2 3).toInt) ∧ ((σ54 2 2).toInt + (σ54 2 3).toInt ≤ 40) ∧ (∀ k : Nat, k < 40 → 0 ≤ (σ54 6 k).toInt ∧ (σ54 6 k).toInt ≤ 67) := id I58
  have z66 : (σ54 2 1).toInt = (σ 2 1).toInt := (congrArg Int32.toInt (show σ54 2 1 = (σ 2 1) from (f57 1 (by decide))))
  have z67 : (σ54 2 2).toInt = (σ 2 2).toInt := (congrArg Int32.toInt (show σ54 2 2 = (σ 2 2) from (f57 2 (by decide))))
  have z68 : (σ54 2 3).toInt = (σ 2 3).toInt := (congrArg Int32.toInt (show σ54 2 3 = (σ 2 3) from (f57 3 (by decide))))
  rcases h54 with h69 | h70 | h71
  · obtain ⟨q75, k72, k73, k74⟩ := h69
    have q75 := q75.symm
    subst q75
    refine lv_pop hx hb dL_law_215 rfl ?_
    refine lv_aload_n hx hb dL_law_216 rfl (lv_at hl 1 rfl) ?_
    refine lv_aload_n hx hb dL_law_217 rfl (lv_at hl 3 rfl) ?_
    refine lv_iload_n hx hb dL_law_218 rfl (lv_at hl 0 rfl) ?_
    refine lv_iconst (v := 1) hx hb dL_law_219 (by decide) ?_
    refine lv_iadd hx hb dL_law_220 ?_
    refine jtopr ex48.symm ?_
    refine va_sld hx hb hX hbl hbA hS (jin tx48 (by omega) (by omega)) dL_law_221 ?_
    refine lv_aload_n hx hb dL_law_222 rfl (lv_at hl 3 rfl) ?_
    refine lv_iload_n hx hb dL_law_223 rfl (lv_at hl 0 rfl) ?_
    refine lv_iconst (v := 2) hx hb dL_law_224 (by decide) ?_
    refine lv_iadd hx hb dL_law_225 ?_
    refine jtopr ex50.symm ?_
    refine va_sld hx hb hX hbl hbA hS (jin tx50 (by omega) (by omega)) dL_law_226 ?_
    refine lv_aload_n hx hb dL_law_227 rfl (lv_at hl 3 rfl) ?_
    refine lv_iload_n hx hb dL_law_228 rfl (lv_at hl 0 rfl) ?_
    refine lv_iconst (v := 3) hx hb dL_law_229 (by decide) ?_
    refine lv_iadd hx hb dL_law_230 ?_
    refine jtopr ex52.symm ?_
    refine va_sld hx hb hX hbl hbA hS (jin tx52 (by omega) (by omega)) dL_law_231 ?_
    have I76 : jI101 σ54 := jI101_fr (congrFun (f56 55 (by decide)) 4) (congrFun (f56 55 (by decide)) 5) (f56 56 (by decide)) (f56 57 (by decide)) (f56 58 (by decide)) (f56 59 (by decide)) hI101
    have I77 : jI102 σ54 := jI102_fr (congrFun (f56 55 (by decide)) 6) (f56 60 (by decide)) (f56 61 (by decide)) hI102
    have z78 : (σ54 55 6).toInt = (σ 55 6).toInt := (congrArg Int32.toInt (show σ54 55 6 = (σ 55 6) from (congrFun (f56 55 (by decide)) 6)))
    refine jcallV (As := [.int (xs x48.toNatClampNeg), .int (xs x50.toNatClampNeg), .int (xs x52.toNatClampNeg)]) (rest := []) ⟨hx, hb, hml, hown, hts⟩ hK hP hA hS hZ (c_X12_bowler l D cI cL ad zz hJ σ54 τ (xs x48.toNatClampNeg) ((xs x48.toNatClampNeg).toInt) rfl (xs x50.toNatClampNeg) ((xs x50.toNatClampNeg).toInt) rfl (xs x52.toNatClampNeg) ((xs x52.toNatClampNeg).toInt) rfl I76 I77) cw_RL_17 (jc_55 cI cL ad σ54 τ) rfl ⟨Nat.le_of_ble_eq_true rfl, Nat.le_of_ble_eq_true rfl⟩ rfl rfl rfl hl.1 rfl (Nat.le_of_ble_eq_true rfl) dL_law_232 ⟨Nat.le_of_ble_eq_true rfl, Nat.le_of_ble_eq_true rfl⟩ (fun r80 σ79 τ79 H locs h79 hP hS => ?_)
    obtain ⟨rfl, f81, f82, I83, I84, h79⟩ := h79
    obtain ⟨i86, i87, i88, w89, w90, w91, w92⟩ : (0 ≤ (σ79 55 5).toInt) ∧ ((σ79 55 5).toInt ≤ (σ79 55 4).toInt) ∧ ((σ79 55 4).toInt ≤ 40) ∧ (∀ k : Nat, k < 68 → (-200) ≤ (σ79 56 k).toInt ∧ (σ79 56 k).toInt ≤ 500) ∧ (∀ k : Nat, k < 40 → 0 ≤ (σ79 57 k).toInt ∧ (σ79 57 k).toInt ≤ 67) ∧ (∀ k : Nat, k < 40 → (-200) ≤ (σ79 58 k).toInt ∧ (σ79 58 k).toInt ≤ 500) ∧ (∀ k : Nat, k < 40 → (-200) ≤ (σ79 59 k).toInt ∧ (σ79 59 k).toInt ≤ 500) := id I83
    obtain ⟨i93, w94, w95⟩ : (0 ≤ (σ79 55 6).toInt ∧ (σ79 55 6).toInt ≤ 4) ∧ (∀ k : Nat, k < 4 → 0 ≤ (σ79 60 k).toInt ∧ (σ79 60 k).toInt ≤ 50) ∧ (∀ k : Nat, k < 4 → 0 ≤ (σ79 61 k).toInt ∧ (σ79 61 k).toInt ≤ 20) := id I84
    have z96 : (σ79 55 5).toInt = (σ 55 5).toInt := (congrArg Int32.toInt (show σ79 55 5 = (σ 55 5) from ((f82 5 (by decide)).trans (congrFun (f56 55 (by decide)) 5))))
    have z97 : (σ79 55 4).toInt = (σ 55 4).toInt := (congrArg Int32.toInt (show σ79 55 4 = (σ 55 4) from ((f82 4 (by decide)).trans (congrFun (f56 55 (by decide)) 4))))
    rcases h79 with h98 | h99 | h100
    · obtain ⟨q104, k101, k102, k103⟩ := h98
      have q104 := q104.symm
      subst q104
      refine lv_pop hx hb dL_law_235 rfl ?_
      refine lv_goto (tgt := 1357) hx hb dL_law_236 (by decide) ?_
      obtain ⟨x105, ex105⟩ : ∃ y : Int32, y = x0 + 6 := ⟨_, rfl⟩
      have tx105 : x105.toInt = x0.toInt + 6 := (jadd ex105 rfl jz_6 (by omega) (by omega)).trans (by omega)
      refine lv_iinc (v := x105) (lv' := [(3, .int x105), (2, .ref (ad 55)), (1, .ref (ad 0)), (0, .ref b)]) hx hb dL_law_1357 hl (k := 0) rfl (by rw [ex105]; rfl) (by decide) rfl (fun ls hl => ?_)
      refine lv_goto (tgt := 18) hx hb dL_law_1360 (by decide) ?_
      have I106 : jI2 σ79 := jI2_fr (congrFun (f81 2 (by decide)) 0) (congrFun (f81 2 (by decide)) 1) (congrFun (f81 2 (by decide)) 2) (congrFun (f81 2 (by decide)) 3) (f81 6 (by decide)) I58
      have I107 : jI9 σ79 := jI9_fr ((congrFun (f81 9 (by decide)) 0).trans (congrFun (f56 9 (by decide)) 0)) ((f81 10 (by decide)).trans (f56 10 (by decide))) ((f81 11 (by decide)).trans (f56 11 (by decide))) hI9
      have I108 : jI12 σ79 := jI12_fr ((congrFun (f81 12 (by decide)) 0).trans (congrFun (f56 12 (by decide)) 0)) ((f81 13 (by decide)).trans (f56 13 (by decide))) hI12
      have I109 : jI16 σ79 := jI16_fr ((congrFun (f81 16 (by decide)) 0).trans (congrFun (f56 16 (by decide)) 0)) ((congrFun (f81 16 (by decide)) 1).trans (congrFun (f56 16 (by decide)) 1)) ((congrFun (f81 16 (by decide)) 2).trans (congrFun (f56 16 (by decide)) 2)) ((f81 17 (by decide)).trans (f56 17 (by decide))) hI16
      have I110 : jI18 σ79 := jI18_fr ((congrFun (f81 18 (by decide)) 0).trans (congrFun (f56 18 (by decide)) 0)) ((f81 19 (by decide)).trans (f56 19 (by decide))) hI18
      have I111 : jI22 σ79 := jI22_fr ((congrFun (f81 22 (by decide)) 0).trans (congrFun (f56 22 (by decide)) 0)) ((f81 23 (by decide)).trans (f56 23 (by decide))) hI22
      have I112 : jI31 σ79 := jI31_fr ((congrFun (f81 31 (by decide)) 8).trans (congrFun (f56 31 (by decide)) 8)) ((congrFun (f81 31 (by decide)) 10).trans (congrFun (f56 31 (by decide)) 10)) ((congrFun (f81 31 (by decide)) 11).trans (congrFun (f56 31 (by decide)) 11)) ((f81 33 (by decide)).trans (f56 33 (by decide))) ((f81 35 (by decide)).trans (f56 35 (by decide))) ((f81 36 (by decide)).trans (f56 36 (by decide))) hI31
      have I113 : jI38 σ79 := jI38_fr ((congrFun (f81 38 (by decide)) 0).trans (congrFun (f56 38 (by decide)) 0)) ((congrFun (f81 38 (by decide)) 1).trans (congrFun (f56 38 (by decide)) 1)) ((f81 39 (by decide)).trans (f56 39 (by decide))) hI38
      have I114 : jI43 σ79 := jI43_fr ((congrFun (f81 43 (by decide)) 8).trans (congrFun (f56 43 (by decide)) 8)) hI43
      have I115 : jI47 σ79 := jI47_fr ((congrFun (f81 47 (by decide)) 0).trans (congrFun (f56 47 (by decide)) 0)) ((f81 48 (by decide)).trans (f56 48 (by decide))) ((f81 49 (by decide)).trans (f56 49 (by decide))) hI47
      have I116 : jI50 σ79 := jI50_fr ((f81 52 (by decide)).trans (f56 52 (by decide))) hI50
      have I117 : jI0 σ79 := jI0_fr ((f81 1 (by decide)).trans (f56 1 (by decide))) hI0
      have I118 : jI26 σ79 := jI26_fr ((congrFun (f81 26 (by decide)) 6).trans (congrFun (f56 26 (by decide)) 6)) hI26
      have I119 : jI103 σ79 := jI103_fr ((f82 9 (by decide)).trans (congrFun (f56 55 (by decide)) 9)) hI103
      have I120 : jI104 σ79 := jI104_fr ((f82 10 (by decide)).trans (congrFun (f56 55 (by decide)) 10)) ((f82 12 (by decide)).trans (congrFun (f56 55 (by decide)) 12)) ((f82 13 (by decide)).trans (congrFun (f56 55 (by decide)) 13)) ((f81 62 (by decide)).trans (f56 62 (by decide))) ((f81 67 (by decide)).trans (f56 67 (by decide))) hI104
      have I121 : jI105 σ79 := jI105_fr ((f82 15 (by decide)).trans (congrFun (f56 55 (by decide)) 15)) ((f81 65 (by decide)).trans (f56 65 (by decide))) hI105
      have I122 : jI106 σ79 := jI106_fr ((f82 32 (by decide)).trans (congrFun (f56 55 (by decide)) 32)) ((f81 70 (by decide)).trans (f56 70 (by decide))) ((f81 71 (by decide)).trans (f56 71 (by decide))) ((f81 72 (by decide)).trans (f56 72 (by decide))) hI106
      have I123 : jI107 σ79 := jI107_fr ((f82 12 (by decide)).trans (congrFun (f56 55 (by decide)) 12)) ((f82 47 (by decide)).trans (congrFun (f56 55 (by decide)) 47)) ((f81 80 (by decide)).trans (f56 80 (by decide))) hI107
      have I124 : jI109 σ79 := jI109_fr ((f82 50 (by decide)).trans (congrFun (f56 55 (by decide)) 50)) hI109
      have I125 : jI110 σ79 := jI110_fr ((f81 86 (by decide)).trans (f56 86 (by decide))) ((f81 87 (by decide)).trans (f56 87 (by decide))) hI110
      have I126 : jI111 σ79 := jI111_fr ((f81 79 (by decide)).trans (f56 79 (by decide))) hI111
      have I127 : jI119 σ79 := jI119_fr ((f81 68 (by decide)).trans (f56 68 (by decide))) hI119
      have p128 : jKept σ79 := jKept.fr ((f81 75 (by decide)).trans (f56 75 (by decide))) ((f81 76 (by decide)).trans (f56 76 (by decide))) ((f81 77 (by decide)).trans (f56 77 (by decide))) hs_jKept
      have p129 : jBook σ79 := jBook.fr ((f82 47 (by decide)).trans (congrFun (f56 55 (by decide)) 47)) ((f82 10 (by decide)).trans (congrFun (f56 55 (by decide)) 10)) ((f81 81 (by decide)).trans (f56 81 (by decide))) hs_jBook
      have p130 : jNd12 σ79 := jNd12.fr ((congrFun (f81 12 (by decide)) 0).trans (congrFun (f56 12 (by decide)) 0)) ((congrFun (f81 12 (by decide)) 1).trans (congrFun (f56 12 (by decide)) 1)) ((f81 13 (by decide)).trans (f56 13 (by decide))) hs_jNd12
      have p131 : jN67 σ79 := jN67.fr ((f81 24 (by decide)).trans (f56 24 (by decide))) hs_jN67
      have p132 : jBl σ79 := jBl.fr ((congrFun (f81 22 (by decide)) 0).trans (congrFun (f56 22 (by decide)) 0)) ((congrFun (f81 22 (by decide)) 1).trans (congrFun (f56 22 (by decide)) 1)) ((f81 23 (by decide)).trans (f56 23 (by decide))) ((congrFun (f81 26 (by decide)) 6).trans (congrFun (f56 26 (by decide)) 6)) ((congrFun (f81 26 (by decide)) 7).trans (congrFun (f56 26 (by decide)) 7)) ((f81 29 (by decide)).trans (f56 29 (by decide))) ((f81 30 (by decide)).trans (f56 30 (by decide))) hs_jBl
      have p133 : jKb σ79 := jKb.fr ((congrFun (f81 31 (by decide)) 8).trans (congrFun (f56 31 (by decide)) 8)) ((congrFun (f81 31 (by decide)) 11).trans (congrFun (f56 31 (by decide)) 11)) ((f81 32 (by decide)).trans (f56 32 (by decide))) hs_jKb
      have p134 : jTR σ79 := jTR.fr ((f81 64 (by decide)).trans (f56 64 (by decide))) ((f81 65 (by decide)).trans (f56 65 (by decide))) hs_jTR
      have p135 : jKh σ79 := jKh.fr ((congrFun (f81 31 (by decide)) 8).trans (congrFun (f56 31 (by decide)) 8)) ((f81 32 (by decide)).trans (f56 32 (by decide))) ((f81 36 (by decide)).trans (f56 36 (by decide))) ((f81 37 (by decide)).trans (f56 37 (by decide))) hs_jKh
      have p136 : jKg σ79 := jKg.fr ((congrFun (f81 31 (by decide)) 8).trans (congrFun (f56 31 (by decide)) 8)) ((congrFun (f81 31 (by decide)) 9).trans (congrFun (f56 31 (by decide)) 9)) ((congrFun (f81 31 (by decide)) 11).trans (congrFun (f56 31 (by decide)) 11)) ((congrFun (f81 31 (by decide)) 12).trans (congrFun (f56 31 (by decide)) 12)) ((f81 32 (by decide)).trans (f56 32 (by decide))) ((f81 33 (by decide)).trans (f56 33 (by decide))) hs_jKg
      have z137 : (σ79 2 0).toInt = (σ54 2 0).toInt := (congrArg Int32.toInt (show σ79 2 0 = (σ54 2 0) from (congrFun (f81 2 (by decide)) 0)))
      have z138 : (σ79 2 2).toInt = (σ 2 2).toInt := (congrArg Int32.toInt (show σ79 2 2 = (σ 2 2) from ((congrFun (f81 2 (by decide)) 2).trans (f57 2 (by decide)))))
      have z139 : (σ79 2 3).toInt = (σ 2 3).toInt := (congrArg Int32.toInt (show σ79 2 3 = (σ 2 3) from ((congrFun (f81 2 (by decide)) 3).trans (f57 3 (by decide)))))
      have z140 : (σ79 9 0).toInt = (σ 9 0).toInt := (congrArg Int32.toInt (show σ79 9 0 = (σ 9 0) from ((congrFun (f81 9 (by decide)) 0).trans (congrFun (f56 9 (by decide)) 0))))
      have z141 : (σ79 55 15).toInt = (σ 55 15).toInt := (congrArg Int32.toInt (show σ79 55 15 = (σ 55 15) from ((f82 15 (by decide)).trans (congrFun (f56 55 (by decide)) 15))))
      have z142 : (σ79 16 0).toInt = (σ 16 0).toInt := (congrArg Int32.toInt (show σ79 16 0 = (σ 16 0) from ((congrFun (f81 16 (by decide)) 0).trans (congrFun (f56 16 (by decide)) 0))))
      have z143 : (σ79 55 10).toInt = (σ 55 10).toInt := (congrArg Int32.toInt (show σ79 55 10 = (σ 55 10) from ((f82 10 (by decide)).trans (congrFun (f56 55 (by decide)) 10))))
      have z144 : (σ79 16 1).toInt = (σ 16 1).toInt := (congrArg Int32.toInt (show σ79 16 1 = (σ 16 1) from ((congrFun (f81 16 (by decide)) 1).trans (congrFun (f56 16 (by decide)) 1))))
      have z145 : (σ79 55 12).toInt = (σ 55 12).toInt := (congrArg Int32.toInt (show σ79 55 12 = (σ 55 12) from ((f82 12 (by decide)).trans (congrFun (f56 55 (by decide)) 12))))
      have z146 : (σ79 16 2).toInt = (σ 16 2).toInt := (congrArg Int32.toInt (show σ79 16 2 = (σ 16 2) from ((congrFun (f81 16 (by decide)) 2).trans (congrFun (f56 16 (by decide)) 2))))
      have z147 : (σ79 55 13).toInt = (σ 55 13).toInt := (congrArg Int32.toInt (show σ79 55 13 = (σ 55 13) from ((f82 13 (by decide)).trans (congrFun (f56 55 (by decide)) 13))))
      have z148 : (σ79 38 0).toInt = (σ 38 0).toInt := (congrArg Int32.toInt (show σ79 38 0 = (σ 38 0) from ((congrFun (f81 38 (by decide)) 0).trans (congrFun (f56 38 (by decide)) 0))))
      have z149 : (σ79 55 32).toInt = (σ 55 32).toInt := (congrArg Int32.toInt (show σ79 55 32 = (σ 55 32) from ((f82 32 (by decide)).trans (congrFun (f56 55 (by decide)) 32))))
      have z150 : (σ79 38 1).toInt = (σ 38 1).toInt := (congrArg Int32.toInt (show σ79 38 1 = (σ 38 1) from ((congrFun (f81 38 (by decide)) 1).trans (congrFun (f56 38 (by decide)) 1))))
      have z151 : (σ79 55 55).toInt = (σ 55 55).toInt := (congrArg Int32.toInt (show σ79 55 55 = (σ 55 55) from ((f82 55 (by decide)).trans (congrFun (f56 55 (by decide)) 55))))
      have z152 : (σ79 47 0).toInt = (σ 47 0).toInt := (congrArg Int32.toInt (show σ79 47 0 = (σ 47 0) from ((congrFun (f81 47 (by decide)) 0).trans (congrFun (f56 47 (by decide)) 0))))
      have z153 : (σ79 55 47).toInt = (σ 55 47).toInt := (congrArg Int32.toInt (show σ79 55 47 = (σ 55 47) from ((f82 47 (by decide)).trans (congrFun (f56 55 (by decide)) 47))))
      have z154 : (σ79 55 30).toInt = (σ 55 30).toInt := (congrArg Int32.toInt (show σ79 55 30 = (σ 55 30) from ((f82 30 (by decide)).trans (congrFun (f56 55 (by decide)) 30))))
      have z155 : (σ79 55 31).toInt = (σ 55 31).toInt := (congrArg Int32.toInt (show σ79 55 31 = (σ 55 31) from ((f82 31 (by decide)).trans (congrFun (f56 55 (by decide)) 31))))
      have z156 : (σ79 2 1).toInt = (σ 2 1).toInt := (congrArg Int32.toInt (show σ79 2 1 = (σ 2 1) from ((congrFun (f81 2 (by decide)) 1).trans (f57 1 (by decide)))))
      have z157 : (σ79 55 9).toInt = (σ 55 9).toInt := (congrArg Int32.toInt (show σ79 55 9 = (σ 55 9) from ((f82 9 (by decide)).trans (congrFun (f56 55 (by decide)) 9))))
      have z158 : (σ79 26 6).toInt = (σ 26 6).toInt := (congrArg Int32.toInt (show σ79 26 6 = (σ 26 6) from ((congrFun (f81 26 (by decide)) 6).trans (congrFun (f56 26 (by decide)) 6))))
      have z160 : (σ79 18 0).toInt = (σ 18 0).toInt := (congrArg Int32.toInt (show σ79 18 0 = (σ 18 0) from ((congrFun (f81 18 (by decide)) 0).trans (congrFun (f56 18 (by decide)) 0))))
      have z161 : (σ79 22 0).toInt = (σ 22 0).toInt := (congrArg Int32.toInt (show σ79 22 0 = (σ 22 0) from ((congrFun (f81 22 (by decide)) 0).trans (congrFun (f56 22 (by decide)) 0))))
      exact ih x105 σ79 τ _ _ ls (by have h9 := tx105; omega) ⟨I106, I107, I108, I109, I110, I111, I112, I113, I114, I115, I116, I117, I118, I83, I84, I119, I120, I121, I122, I123, I124, I125, I126, I127, p128, p129, p130, p131, p132, p133, p134, p135, p136, (by omega), (by omega), (by omega), (by omega), (by omega), (by omega), (by omega), (by omega), (by omega), (by omega), (by omega), (by omega), (by omega), (by have h9 := tx105; omega), (show jNumP (σ79 3) (σ79 56) (σ79 6) (σ79 57) (σ79 7) (σ79 58) (σ79 8) (σ79 59) (σ79 55 6).toInt (σ79 55 4).toInt by rw [show σ79 3 = σ 3 from ((f81 3 (by decide)).trans k74.1), show σ79 56 = σ 56 from (k103.1.trans (f56 56 (by decide))), show σ79 6 = σ 6 from ((f81 6 (by decide)).trans (f56 6 (by decide))), show σ79 57 = σ 57 from ((f81 57 (by decide)).trans (f56 57 (by decide))), show σ79 7 = σ 7 from ((f81 7 (by decide)).trans (f56 7 (by decide))), show σ79 58 = σ 58 from ((f81 58 (by decide)).trans (f56 58 (by decide))), show σ79 8 = σ 8 from ((f81 8 (by decide)).trans (f56 8 (by decide))), show σ79 59 = σ 59 from ((f81 59 (by decide)).trans (f56 59 (by decide))), show (σ79 55 6).toInt = (σ 55 6).toInt from by omega, show (σ79 55 4).toInt = (σ 55 4).toInt from by omega]; exact hr0), (show jOvP (σ79 56) (σ79 57) (σ79 58) (σ79 59) (σ79 55 4).toInt by rw [show σ79 56 = σ 56 from (k103.1.trans (f56 56 (by decide))), show σ79 57 = σ 57 from ((f81 57 (by decide)).trans (f56 57 (by decide))), show σ79 58 = σ 58 from ((f81 58 (by decide)).trans (f56 58 (by decide))), show σ79 59 = σ 59 from ((f81 59 (by decide)).trans (f56 59 (by decide))), show (σ79 55 4).toInt = (σ 55 4).toInt from by omega]; exact hr1), (show jTp (σ79 10) (σ79 63) (σ79 55 15).toInt by rw [show σ79 10 = σ 10 from ((f81 10 (by decide)).trans (f56 10 (by decide))), show σ79 63 = σ 63 from ((f81 63 (by decide)).trans (f56 63 (by decide)))]; exact hr2.le (by omega)), (show jSo (σ79 17) (σ79 62) (σ79 16 0).toInt by rw [show σ79 17 = σ 17 from ((f81 17 (by decide)).trans (f56 17 (by decide))), show σ79 62 = σ 62 from ((f81 62 (by decide)).trans (f56 62 (by decide))), show (σ79 16 0).toInt = (σ 16 0).toInt from by omega]; exact hr3), (show jShP (σ79 51) (σ79 52) (σ79 53) (σ79 86) (σ79 87) (σ79 55 32).toInt by rw [show σ79 51 = σ 51 from ((f81 51 (by decide)).trans (f56 51 (by decide))), show σ79 52 = σ 52 from ((f81 52 (by decide)).trans (f56 52 (by decide))), show σ79 53 = σ 53 from ((f81 53 (by decide)).trans (f56 53 (by decide))), show σ79 86 = σ 86 from ((f81 86 (by decide)).trans (f56 86 (by decide))), show σ79 87 = σ 87 from ((f81 87 (by decide)).trans (f56 87 (by decide)))]; exact (hr4.up (by omega) (by omega))), (show jEl (σ79 51) (σ79 52) (τ 54) (τ 88) by rw [show σ79 51 = σ 51 from ((f81 51 (by decide)).trans (f56 51 (by decide))), show σ79 52 = σ 52 from ((f81 52 (by decide)).trans (f56 52 (by decide)))]; exact hr5), (show jByP (σ79 51) (σ79 52) (τ 54) by rw [show σ79 51 = σ 51 from ((f81 51 (by decide)).trans (f56 51 (by decide))), show σ79 52 = σ 52 from ((f81 52 (by decide)).trans (f56 52 (by decide)))]; exact hr6), (show jBk (σ79 48) (σ79 80) (σ79 49) (σ79 81) (σ79 55 47).toInt by rw [show σ79 48 = σ 48 from ((f81 48 (by decide)).trans (f56 48 (by decide))), show σ79 49 = σ 49 from ((f81 49 (by decide)).trans (f56 49 (by decide))), show σ79 80 = σ 80 from ((f81 80 (by decide)).trans (f56 80 (by decide))), show σ79 81 = σ 81 from ((f81 81 (by decide)).trans (f56 81 (by decide))), show (σ79 55 47).toInt = (σ 55 47).toInt from by omega]; exact hr7), (show jKd (σ79 39) (σ79 70) (σ79 55 32).toInt by rw [show σ79 39 = σ 39 from ((f81 39 (by decide)).trans (f56 39 (by decide))), show σ79 70 = σ 70 from ((f81 70 (by decide)).trans (f56 70 (by decide))), show (σ79 55 32).toInt = (σ 55 32).toInt from by omega]; exact hr8), (show jTt (σ79 42) (σ79 85) (σ79 55 55).toInt by rw [show σ79 42 = σ 42 from ((f81 42 (by decide)).trans (f56 42 (by decide))), show σ79 85 = σ 85 from ((f81 85 (by decide)).trans (f56 85 (by decide))), show (σ79 55 55).toInt = (σ 55 55).toInt from by omega]; exact hr9), (fun k hk => by rw [show σ79 4 = σ 4 from ((f81 4 (by decide)).trans k74.2.1), show σ79 5 = σ 5 from ((f81 5 (by decide)).trans k74.2.2), show σ79 60 = σ 60 from (k103.2.1.trans (f56 60 (by decide))), show σ79 61 = σ 61 from (k103.2.2.trans (f56 61 (by decide)))]; exact hr10 k (by omega)), (fun nm => by rw [show σ79 19 = σ 19 from ((f81 19 (by decide)).trans (f56 19 (by decide))), show σ79 64 = σ 64 from ((f81 64 (by decide)).trans (f56 64 (by decide))), show σ79 65 = σ 65 from ((f81 65 (by decide)).trans (f56 65 (by decide))), show (σ79 18 0).toInt = (σ 18 0).toInt from by omega]; exact hr11 nm), (fun nm => by rw [show σ79 23 = σ 23 from ((f81 23 (by decide)).trans (f56 23 (by decide))), show σ79 64 = σ 64 from ((f81 64 (by decide)).trans (f56 64 (by decide))), show σ79 65 = σ 65 from ((f81 65 (by decide)).trans (f56 65 (by decide))), show (σ79 22 0).toInt = (σ 22 0).toInt from by omega]; exact hr12 nm)⟩ hP hS (lv_sub hl [0, 1, 2, 3] rfl)
    · obtain ⟨q168, k162, k163, k164, k165, k166, k167⟩ := h99
      exact absurd (by omega : False) id
    · obtain ⟨q177, k169, k170, k171, k172, k173, k174, k175, k176⟩ := h100
      exact absurd (by omega : False) id
  · obtain ⟨q184, k178, k179, k180, k181, k182, k183⟩ := h70
    have q184 := q184.symm
    subst q184
    refine lv_pop hx hb dL_law_215 rfl ?_
    refine lv_aload_n hx hb dL_law_216 rfl (lv_at hl 1 rfl) ?_
    refine lv_aload_n hx hb dL_law_217 rfl (lv_at hl 3 rfl) ?_
    refine lv_iload_n hx hb dL_law_218 rfl (lv_at hl 0 rfl) ?_
    refine lv_iconst (v := 1) hx hb dL_law_219 (by decide) ?_
    refine lv_iadd hx hb dL_law_220 ?_
    refine jtopr ex48.symm ?_
    refine va_sld hx hb hX hbl hbA hS (jin tx48 (by omega) (by omega)) dL_law_221 ?_
    refine lv_aload_n hx hb dL_law_222 rfl (lv_at hl 3 rfl) ?_
    refine lv_iload_n hx hb dL_law_223 rfl (lv_at hl 0 rfl) ?_
    refine lv_iconst (v := 2) hx hb dL_law_224 (by decide) ?_
    refine lv_iadd hx hb dL_law_225 ?_
    refine jtopr ex50.symm ?_
    refine va_sld hx hb hX hbl hbA hS (jin tx50 (by omega) (by omega)) dL_law_226 ?_
    refine lv_aload_n hx hb dL_law_227 rfl (lv_at hl 3 rfl) ?_
    refine lv_iload_n hx hb dL_law_228 rfl (lv_at hl 0 rfl) ?_
    refine lv_iconst (v := 3) hx hb dL_law_229 (by decide) ?_
    refine lv_iadd hx hb dL_law_230 ?_
    refine jtopr ex52.symm ?_
    refine va_sld hx hb hX hbl hbA hS (jin tx52 (by omega) (by omega)) dL_law_231 ?_
    have I185 : jI101 σ54 := jI101_fr (congrFun (f56 55 (by decide)) 4) (congrFun (f56 55 (by decide)) 5) (f56 56 (by decide)) (f56 57 (by decide)) (f56 58 (by decide)) (f56 59 (by decide)) hI101
    have I186 : jI102 σ54 := jI102_fr (congrFun (f56 55 (by decide)) 6) (f56 60 (by decide)) (f56 61 (by decide)) hI102
    have z187 : (σ54 55 6).toInt = (σ 55 6).toInt := (congrArg Int32.toInt (show σ54 55 6 = (σ 55 6) from (congrFun (f56 55 (by decide)) 6)))
    refine jcallV (As := [.int (xs x48.toNatClampNeg), .int (xs x50.toNatClampNeg), .int (xs x52.toNatClampNeg)]) (rest := []) ⟨hx, hb, hml, hown, hts⟩ hK hP hA hS hZ (c_X12_bowler l D cI cL ad zz hJ σ54 τ (xs x48.toNatClampNeg) ((xs x48.toNatClampNeg).toInt) rfl (xs x50.toNatClampNeg) ((xs x50.toNatClampNeg).toInt) rfl (xs x52.toNatClampNeg) ((xs x52.toNatClampNeg).toInt) rfl I185 I186) cw_RL_17 (jc_55 cI cL ad σ54 τ) rfl ⟨Nat.le_of_ble_eq_true rfl, Nat.le_of_ble_eq_true rfl⟩ rfl rfl rfl hl.1 rfl (Nat.le_of_ble_eq_true rfl) dL_law_232 ⟨Nat.le_of_ble_eq_true rfl, Nat.le_of_ble_eq_true rfl⟩ (fun r189 σ188 τ188 H locs h188 hP hS => ?_)
    obtain ⟨rfl, f190, f191, I192, I193, h188⟩ := h188
    obtain ⟨i195, i196, i197, w198, w199, w200, w201⟩ : (0 ≤ (σ188 55 5).toInt) ∧ ((σ188 55 5).toInt ≤ (σ188 55 4).toInt) ∧ ((σ188 55 4).toInt ≤ 40) ∧ (∀ k : Nat, k < 68 → (-200) ≤ (σ188 56 k).toInt ∧ (σ188 56 k).toInt ≤ 500) ∧ (∀ k : Nat, k < 40 → 0 ≤ (σ188 57 k).toInt ∧ (σ188 57 k).toInt ≤ 67) ∧ (∀ k : Nat, k < 40 → (-200) ≤ (σ188 58 k).toInt ∧ (σ188 58 k).toInt ≤ 500) ∧ (∀ k : Nat, k < 40 → (-200) ≤ (σ188 59 k).toInt ∧ (σ188 59 k).toInt ≤ 500) := id I192
    obtain ⟨i202, w203, w204⟩ : (0 ≤ (σ188 55 6).toInt ∧ (σ188 55 6).toInt ≤ 4) ∧ (∀ k : Nat, k < 4 → 0 ≤ (σ188 60 k).toInt ∧ (σ188 60 k).toInt ≤ 50) ∧ (∀ k : Nat, k < 4 → 0 ≤ (σ188 61 k).toInt ∧ (σ188 61 k).toInt ≤ 20) := id I193
    have z205 : (σ188 55 5).toInt = (σ 55 5).toInt := (congrArg Int32.toInt (show σ188 55 5 = (σ 55 5) from ((f191 5 (by decide)).trans (congrFun (f56 55 (by decide)) 5))))
    have z206 : (σ188 55 4).toInt = (σ 55 4).toInt := (congrArg Int32.toInt (show σ188 55 4 = (σ 55 4) from ((f191 4 (by decide)).trans (congrFun (f56 55 (by decide)) 4))))
    rcases h188 with h207 | h208 | h209
    · obtain ⟨q213, k210, k211, k212⟩ := h207
      exact absurd (by omega : False) id
    · obtain ⟨q220, k214, k215, k216, k217, k218, k219⟩ := h208
      have q220 := q220.symm
      subst q220
      refine lv_pop hx hb dL_law_235 rfl ?_
      refine lv_goto (tgt := 1357) hx hb dL_law_236 (by decide) ?_
      obtain ⟨x221, ex221⟩ : ∃ y : Int32, y = x0 + 6 := ⟨_, rfl⟩
      have tx221 : x221.toInt = x0.toInt + 6 := (jadd ex221 rfl jz_6 (by omega) (by omega)).trans (by omega)
      refine lv_iinc (v := x221) (lv' := [(3, .int x221), (2, .ref (ad 55)), (1, .ref (ad 0)), (0, .ref b)]) hx hb dL_law_1357 hl (k := 0) rfl (by rw [ex221]; rfl) (by decide) rfl (fun ls hl => ?_)
      refine lv_goto (tgt := 18) hx hb dL_law_1360 (by decide) ?_
      have I222 : jI2 σ188 := jI2_fr (congrFun (f190 2 (by decide)) 0) (congrFun (f190 2 (by decide)) 1) (congrFun (f190 2 (by decide)) 2) (congrFun (f190 2 (by decide)) 3) (f190 6 (by decide)) I58
      have I223 : jI9 σ188 := jI9_fr ((congrFun (f190 9 (by decide)) 0).trans (congrFun (f56 9 (by decide)) 0)) ((f190 10 (by decide)).trans (f56 10 (by decide))) ((f190 11 (by decide)).trans (f56 11 (by decide))) hI9
      have I224 : jI12 σ188 := jI12_fr ((congrFun (f190 12 (by decide)) 0).trans (congrFun (f56 12 (by decide)) 0)) ((f190 13 (by decide)).trans (f56 13 (by decide))) hI12
      have I225 : jI16 σ188 := jI16_fr ((congrFun (f190 16 (by decide)) 0).trans (congrFun (f56 16 (by decide)) 0)) ((congrFun (f190 16 (by decide)) 1).trans (congrFun (f56 16 (by decide)) 1)) ((congrFun (f190 16 (by decide)) 2).trans (congrFun (f56 16 (by decide)) 2)) ((f190 17 (by decide)).trans (f56 17 (by decide))) hI16
      have I226 : jI18 σ188 := jI18_fr ((congrFun (f190 18 (by decide)) 0).trans (congrFun (f56 18 (by decide)) 0)) ((f190 19 (by decide)).trans (f56 19 (by decide))) hI18
      have I227 : jI22 σ188 := jI22_fr ((congrFun (f190 22 (by decide)) 0).trans (congrFun (f56 22 (by decide)) 0)) ((f190 23 (by decide)).trans (f56 23 (by decide))) hI22
      have I228 : jI31 σ188 := jI31_fr ((congrFun (f190 31 (by decide)) 8).trans (congrFun (f56 31 (by decide)) 8)) ((congrFun (f190 31 (by decide)) 10).trans (congrFun (f56 31 (by decide)) 10)) ((congrFun (f190 31 (by decide)) 11).trans (congrFun (f56 31 (by decide)) 11)) ((f190 33 (by decide)).trans (f56 33 (by decide))) ((f190 35 (by decide)).trans (f56 35 (by decide))) ((f190 36 (by decide)).trans (f56 36 (by decide))) hI31
      have I229 : jI38 σ188 := jI38_fr ((congrFun (f190 38 (by decide)) 0).trans (congrFun (f56 38 (by decide)) 0)) ((congrFun (f190 38 (by decide)) 1).trans (congrFun (f56 38 (by decide)) 1)) ((f190 39 (by decide)).trans (f56 39 (by decide))) hI38
      have I230 : jI43 σ188 := jI43_fr ((congrFun (f190 43 (by decide)) 8).trans (congrFun (f56 43 (by decide)) 8)) hI43
      have I231 : jI47 σ188 := jI47_fr ((congrFun (f190 47 (by decide)) 0).trans (congrFun (f56 47 (by decide)) 0)) ((f190 48 (by decide)).trans (f56 48 (by decide))) ((f190 49 (by decide)).trans (f56 49 (by decide))) hI47
      have I232 : jI50 σ188 := jI50_fr ((f190 52 (by decide)).trans (f56 52 (by decide))) hI50
      have I233 : jI0 σ188 := jI0_fr ((f190 1 (by decide)).trans (f56 1 (by decide))) hI0
      have I234 : jI26 σ188 := jI26_fr ((congrFun (f190 26 (by decide)) 6).trans (congrFun (f56 26 (by decide)) 6)) hI26
      have I235 : jI103 σ188 := jI103_fr ((f191 9 (by decide)).trans (congrFun (f56 55 (by decide)) 9)) hI103
      have I236 : jI104 σ188 := jI104_fr ((f191 10 (by decide)).trans (congrFun (f56 55 (by decide)) 10)) ((f191 12 (by decide)).trans (congrFun (f56 55 (by decide)) 12)) ((f191 13 (by decide)).trans (congrFun (f56 55 (by decide)) 13)) ((f190 62 (by decide)).trans (f56 62 (by decide))) ((f190 67 (by decide)).trans (f56 67 (by decide))) hI104
      have I237 : jI105 σ188 := jI105_fr ((f191 15 (by decide)).trans (congrFun (f56 55 (by decide)) 15)) ((f190 65 (by decide)).trans (f56 65 (by decide))) hI105
      have I238 : jI106 σ188 := jI106_fr ((f191 32 (by decide)).trans (congrFun (f56 55 (by decide)) 32)) ((f190 70 (by decide)).trans (f56 70 (by decide))) ((f190 71 (by decide)).trans (f56 71 (by decide))) ((f190 72 (by decide)).trans (f56 72 (by decide))) hI106
      have I239 : jI107 σ188 := jI107_fr ((f191 12 (by decide)).trans (congrFun (f56 55 (by decide)) 12)) ((f191 47 (by decide)).trans (congrFun (f56 55 (by decide)) 47)) ((f190 80 (by decide)).trans (f56 80 (by decide))) hI107
      have I240 : jI109 σ188 := jI109_fr ((f191 50 (by decide)).trans (congrFun (f56 55 (by decide)) 50)) hI109
      have I241 : jI110 σ188 := jI110_fr ((f190 86 (by decide)).trans (f56 86 (by decide))) ((f190 87 (by decide)).trans (f56 87 (by decide))) hI110
      have I242 : jI111 σ188 := jI111_fr ((f190 79 (by decide)).trans (f56 79 (by decide))) hI111
      have I243 : jI119 σ188 := jI119_fr ((f190 68 (by decide)).trans (f56 68 (by decide))) hI119
      have p244 : jKept σ188 := jKept.fr ((f190 75 (by decide)).trans (f56 75 (by decide))) ((f190 76 (by decide)).trans (f56 76 (by decide))) ((f190 77 (by decide)).trans (f56 77 (by decide))) hs_jKept
      have p245 : jBook σ188 := jBook.fr ((f191 47 (by decide)).trans (congrFun (f56 55 (by decide)) 47)) ((f191 10 (by decide)).trans (congrFun (f56 55 (by decide)) 10)) ((f190 81 (by decide)).trans (f56 81 (by decide))) hs_jBook
      have p246 : jNd12 σ188 := jNd12.fr ((congrFun (f190 12 (by decide)) 0).trans (congrFun (f56 12 (by decide)) 0)) ((congrFun (f190 12 (by decide)) 1).trans (congrFun (f56 12 (by decide)) 1)) ((f190 13 (by decide)).trans (f56 13 (by decide))) hs_jNd12
      have p247 : jN67 σ188 := jN67.fr ((f190 24 (by decide)).trans (f56 24 (by decide))) hs_jN67
      have p248 : jBl σ188 := jBl.fr ((congrFun (f190 22 (by decide)) 0).trans (congrFun (f56 22 (by decide)) 0)) ((congrFun (f190 22 (by decide)) 1).trans (congrFun (f56 22 (by decide)) 1)) ((f190 23 (by decide)).trans (f56 23 (by decide))) ((congrFun (f190 26 (by decide)) 6).trans (congrFun (f56 26 (by decide)) 6)) ((congrFun (f190 26 (by decide)) 7).trans (congrFun (f56 26 (by decide)) 7)) ((f190 29 (by decide)).trans (f56 29 (by decide))) ((f190 30 (by decide)).trans (f56 30 (by decide))) hs_jBl
      have p249 : jKb σ188 := jKb.fr ((congrFun (f190 31 (by decide)) 8).trans (congrFun (f56 31 (by decide)) 8)) ((congrFun (f190 31 (by decide)) 11).trans (congrFun (f56 31 (by decide)) 11)) ((f190 32 (by decide)).trans (f56 32 (by decide))) hs_jKb
      have p250 : jTR σ188 := jTR.fr ((f190 64 (by decide)).trans (f56 64 (by decide))) ((f190 65 (by decide)).trans (f56 65 (by decide))) hs_jTR
      have p251 : jKh σ188 := jKh.fr ((congrFun (f190 31 (by decide)) 8).trans (congrFun (f56 31 (by decide)) 8)) ((f190 32 (by decide)).trans (f56 32 (by decide))) ((f190 36 (by decide)).trans (f56 36 (by decide))) ((f190 37 (by decide)).trans (f56 37 (by decide))) hs_jKh
      have p252 : jKg σ188 := jKg.fr ((congrFun (f190 31 (by decide)) 8).trans (congrFun (f56 31 (by decide)) 8)) ((congrFun (f190 31 (by decide)) 9).trans (congrFun (f56 31 (by decide)) 9)) ((congrFun (f190 31 (by decide)) 11).trans (congrFun (f56 31 (by decide)) 11)) ((congrFun (f190 31 (by decide)) 12).trans (congrFun (f56 31 (by decide)) 12)) ((f190 32 (by decide)).trans (f56 32 (by decide))) ((f190 33 (by decide)).trans (f56 33 (by decide))) hs_jKg
      have z253 : (σ188 2 0).toInt = (σ54 2 0).toInt := (congrArg Int32.toInt (show σ188 2 0 = (σ54 2 0) from (congrFun (f190 2 (by decide)) 0)))
      have z254 : (σ188 2 2).toInt = (σ 2 2).toInt := (congrArg Int32.toInt (show σ188 2 2 = (σ 2 2) from ((congrFun (f190 2 (by decide)) 2).trans (f57 2 (by decide)))))
      have z255 : (σ188 2 3).toInt = (σ 2 3).toInt := (congrArg Int32.toInt (show σ188 2 3 = (σ 2 3) from ((congrFun (f190 2 (by decide)) 3).trans (f57 3 (by decide)))))
      have z256 : (σ188 9 0).toInt = (σ 9 0).toInt := (congrArg Int32.toInt (show σ188 9 0 = (σ 9 0) from ((congrFun (f190 9 (by decide)) 0).trans (congrFun (f56 9 (by decide)) 0))))
      have z257 : (σ188 55 15).toInt = (σ 55 15).toInt := (congrArg Int32.toInt (show σ188 55 15 = (σ 55 15) from ((f191 15 (by decide)).trans (congrFun (f56 55 (by decide)) 15))))
      have z258 : (σ188 16 0).toInt = (σ 16 0).toInt := (congrArg Int32.toInt (show σ188 16 0 = (σ 16 0) from ((congrFun (f190 16 (by decide)) 0).trans (congrFun (f56 16 (by decide)) 0))))
      have z259 : (σ188 55 10).toInt = (σ 55 10).toInt := (congrArg Int32.toInt (show σ188 55 10 = (σ 55 10) from ((f191 10 (by decide)).trans (congrFun (f56 55 (by decide)) 10))))
      have z260 : (σ188 16 1).toInt = (σ 16 1).toInt := (congrArg Int32.toInt (show σ188 16 1 = (σ 16 1) from ((congrFun (f190 16 (by decide)) 1).trans (congrFun (f56 16 (by decide)) 1))))
      have z261 : (σ188 55 12).toInt = (σ 55 12).toInt := (congrArg Int32.toInt (show σ188 55 12 = (σ 55 12) from ((f191 12 (by decide)).trans (congrFun (f56 55 (by decide)) 12))))
      have z262 : (σ188 16 2).toInt = (σ 16 2).toInt := (congrArg Int32.toInt (show σ188 16 2 = (σ 16 2) from ((congrFun (f190 16 (by decide)) 2).trans (congrFun (f56 16 (by decide)) 2))))
      have z263 : (σ188 55 13).toInt = (σ 55 13).toInt := (congrArg Int32.toInt (show σ188 55 13 = (σ 55 13) from ((f191 13 (by decide)).trans (congrFun (f56 55 (by decide)) 13))))
      have z264 : (σ188 38 0).toInt = (σ 38 0).toInt := (congrArg Int32.toInt (show σ188 38 0 = (σ 38 0) from ((congrFun (f190 38 (by decide)) 0).trans (congrFun (f56 38 (by decide)) 0))))
      have z265 : (σ188 55 32).toInt = (σ 55 32).toInt := (congrArg Int32.toInt (show σ188 55 32 = (σ 55 32) from ((f191 32 (by decide)).trans (congrFun (f56 55 (by decide)) 32))))
      have z266 : (σ188 38 1).toInt = (σ 38 1).toInt := (congrArg Int32.toInt (show σ188 38 1 = (σ 38 1) from ((congrFun (f190 38 (by decide)) 1).trans (congrFun (f56 38 (by decide)) 1))))
      have z267 : (σ188 55 55).toInt = (σ 55 55).toInt := (congrArg Int32.toInt (show σ188 55 55 = (σ 55 55) from ((f191 55 (by decide)).trans (congrFun (f56 55 (by decide)) 55))))
      have z268 : (σ188 47 0).toInt = (σ 47 0).toInt := (congrArg Int32.toInt (show σ188 47 0 = (σ 47 0) from ((congrFun (f190 47 (by decide)) 0).trans (congrFun (f56 47 (by decide)) 0))))
      have z269 : (σ188 55 47).toInt = (σ 55 47).toInt := (congrArg Int32.toInt (show σ188 55 47 = (σ 55 47) from ((f191 47 (by decide)).trans (congrFun (f56 55 (by decide)) 47))))
      have z270 : (σ188 55 30).toInt = (σ 55 30).toInt := (congrArg Int32.toInt (show σ188 55 30 = (σ 55 30) from ((f191 30 (by decide)).trans (congrFun (f56 55 (by decide)) 30))))
      have z271 : (σ188 55 31).toInt = (σ 55 31).toInt := (congrArg Int32.toInt (show σ188 55 31 = (σ 55 31) from ((f191 31 (by decide)).trans (congrFun (f56 55 (by decide)) 31))))
      have z272 : (σ188 2 1).toInt = (σ 2 1).toInt := (congrArg Int32.toInt (show σ188 2 1 = (σ 2 1) from ((congrFun (f190 2 (by decide)) 1).trans (f57 1 (by decide)))))
      have z273 : (σ188 55 9).toInt = (σ 55 9).toInt := (congrArg Int32.toInt (show σ188 55 9 = (σ 55 9) from ((f191 9 (by decide)).trans (congrFun (f56 55 (by decide)) 9))))
      have z274 : (σ188 26 6).toInt = (σ 26 6).toInt := (congrArg Int32.toInt (show σ188 26 6 = (σ 26 6) from ((congrFun (f190 26 (by decide)) 6).trans (congrFun (f56 26 (by decide)) 6))))
      have z276 : (σ188 18 0).toInt = (σ 18 0).toInt := (congrArg Int32.toInt (show σ188 18 0 = (σ 18 0) from ((congrFun (f190 18 (by decide)) 0).trans (congrFun (f56 18 (by decide)) 0))))
      have z277 : (σ188 22 0).toInt = (σ 22 0).toInt := (congrArg Int32.toInt (show σ188 22 0 = (σ 22 0) from ((congrFun (f190 22 (by decide)) 0).trans (congrFun (f56 22 (by decide)) 0))))
      exact ih x221 σ188 τ _ _ ls (by have h9 := tx221; omega) ⟨I222, I223, I224, I225, I226, I227, I228, I229, I230, I231, I232, I233, I234, I192, I193, I235, I236, I237, I238, I239, I240, I241, I242, I243, p244, p245, p246, p247, p248, p249, p250, p251, p252, (by omega), (by omega), (by omega), (by omega), (by omega), (by omega), (by omega), (by omega), (by omega), (by omega), (by omega), (by omega), (by omega), (by have h9 := tx221; omega), (show jNumP (σ188 3) (σ188 56) (σ188 6) (σ188 57) (σ188 7) (σ188 58) (σ188 8) (σ188 59) (σ188 55 6).toInt (σ188 55 4).toInt by rw [show σ188 3 = σ 3 from ((f190 3 (by decide)).trans k183.1), show σ188 56 = σ 56 from (k219.1.trans (f56 56 (by decide))), show σ188 6 = σ 6 from ((f190 6 (by decide)).trans (f56 6 (by decide))), show σ188 57 = σ 57 from ((f190 57 (by decide)).trans (f56 57 (by decide))), show σ188 7 = σ 7 from ((f190 7 (by decide)).trans (f56 7 (by decide))), show σ188 58 = σ 58 from ((f190 58 (by decide)).trans (f56 58 (by decide))), show σ188 8 = σ 8 from ((f190 8 (by decide)).trans (f56 8 (by decide))), show σ188 59 = σ 59 from ((f190 59 (by decide)).trans (f56 59 (by decide))), show (σ188 55 6).toInt = (σ 55 6).toInt from by omega, show (σ188 55 4).toInt = (σ 55 4).toInt from by omega]; exact hr0), (show jOvP (σ188 56) (σ188 57) (σ188 58) (σ188 59) (σ188 55 4).toInt by rw [show σ188 56 = σ 56 from (k219.1.trans (f56 56 (by decide))), show σ188 57 = σ 57 from ((f190 57 (by decide)).trans (f56 57 (by decide))), show σ188 58 = σ 58 from ((f190 58 (by decide)).trans (f56 58 (by decide))), show σ188 59 = σ 59 from ((f190 59 (by decide)).trans (f56 59 (by decide))), show (σ188 55 4).toInt = (σ 55 4).toInt from by omega]; exact hr1), (show jTp (σ188 10) (σ188 63) (σ188 55 15).toInt by rw [show σ188 10 = σ 10 from ((f190 10 (by decide)).trans (f56 10 (by decide))), show σ188 63 = σ 63 from ((f190 63 (by decide)).trans (f56 63 (by decide)))]; exact hr2.le (by omega)), (show jSo (σ188 17) (σ188 62) (σ188 16 0).toInt by rw [show σ188 17 = σ 17 from ((f190 17 (by decide)).trans (f56 17 (by decide))), show σ188 62 = σ 62 from ((f190 62 (by decide)).trans (f56 62 (by decide))), show (σ188 16 0).toInt = (σ 16 0).toInt from by omega]; exact hr3), (show jShP (σ188 51) (σ188 52) (σ188 53) (σ188 86) (σ188 87) (σ188 55 32).toInt by rw [show σ188 51 = σ 51 from ((f190 51 (by decide)).trans (f56 51 (by decide))), show σ188 52 = σ 52 from ((f190 52 (by decide)).trans (f56 52 (by decide))), show σ188 53 = σ 53 from ((f190 53 (by decide)).trans (f56 53 (by decide))), show σ188 86 = σ 86 from ((f190 86 (by decide)).trans (f56 86 (by decide))), show σ188 87 = σ 87 from ((f190 87 (by decide)).trans (f56 87 (by decide)))]; exact (hr4.up (by omega) (by omega))), (show jEl (σ188 51) (σ188 52) (τ 54) (τ 88) by rw [show σ188 51 = σ 51 from ((f190 51 (by decide)).trans (f56 51 (by decide))), show σ188 52 = σ 52 from ((f190 52 (by decide)).trans (f56 52 (by decide)))]; exact hr5), (show jByP (σ188 51) (σ188 52) (τ 54) by rw [show σ188 51 = σ 51 from ((f190 51 (by decide)).trans (f56 51 (by decide))), show σ188 52 = σ 52 from ((f190 52 (by decide)).trans (f56 52 (by decide)))]; exact hr6), (show jBk (σ188 48) (σ188 80) (σ188 49) (σ188 81) (σ188 55 47).toInt by rw [show σ188 48 = σ 48 from ((f190 48 (by decide)).trans (f56 48 (by decide))), show σ188 49 = σ 49 from ((f190 49 (by decide)).trans (f56 49 (by decide))), show σ188 80 = σ 80 from ((f190 80 (by decide)).trans (f56 80 (by decide))), show σ188 81 = σ 81 from ((f190 81 (by decide)).trans (f56 81 (by decide))), show (σ188 55 47).toInt = (σ 55 47).toInt from by omega]; exact hr7), (show jKd (σ188 39) (σ188 70) (σ188 55 32).toInt by rw [show σ188 39 = σ 39 from ((f190 39 (by decide)).trans (f56 39 (by decide))), show σ188 70 = σ 70 from ((f190 70 (by decide)).trans (f56 70 (by decide))), show (σ188 55 32).toInt = (σ 55 32).toInt from by omega]; exact hr8), (show jTt (σ188 42) (σ188 85) (σ188 55 55).toInt by rw [show σ188 42 = σ 42 from ((f190 42 (by decide)).trans (f56 42 (by decide))), show σ188 85 = σ 85 from ((f190 85 (by decide)).trans (f56 85 (by decide))), show (σ188 55 55).toInt = (σ 55 55).toInt from by omega]; exact hr9), (fun k hk => by rw [show σ188 4 = σ 4 from ((f190 4 (by decide)).trans k183.2.1), show σ188 5 = σ 5 from ((f190 5 (by decide)).trans k183.2.2), show σ188 60 = σ 60 from (k219.2.1.trans (f56 60 (by decide))), show σ188 61 = σ 61 from (k219.2.2.trans (f56 61 (by decide)))]; exact hr10 k (by omega)), (fun nm => by rw [show σ188 19 = σ 19 from ((f190 19 (by decide)).trans (f56 19 (by decide))), show σ188 64 = σ 64 from ((f190 64 (by decide)).trans (f56 64 (by decide))), show σ188 65 = σ 65 from ((f190 65 (by decide)).trans (f56 65 (by decide))), show (σ188 18 0).toInt = (σ 18 0).toInt from by omega]; exact hr11 nm), (fun nm => by rw [show σ188 23 = σ 23 from ((f190 23 (by decide)).trans (f56 23 (by decide))), show σ188 64 = σ 64 from ((f190 64 (by decide)).trans (f56 64 (by decide))), show σ188 65 = σ 65 from ((f190 65 (by decide)).trans (f56 65 (by decide))), show (σ188 22 0).toInt = (σ 22 0).toInt from by omega]; exact hr12 nm)⟩ hP hS (lv_sub hl [0, 1, 2, 3] rfl)
    · obtain ⟨q286, k278, k279, k280, k281, k282, k283, k284, k285⟩ := h209
      exact absurd (by omega : False) id
  · obtain ⟨q295, k287, k288, k289, k290, k291, k292, k293, k294⟩ := h71
    refine lv_pop hx hb dL_law_215 rfl ?_
    refine lv_aload_n hx hb dL_law_216 rfl (lv_at hl 1 rfl) ?_
    refine lv_aload_n hx hb dL_law_217 rfl (lv_at hl 3 rfl) ?_
    refine lv_iload_n hx hb dL_law_218 rfl (lv_at hl 0 rfl) ?_
    refine lv_iconst (v := 1) hx hb dL_law_219 (by decide) ?_
    refine lv_iadd hx hb dL_law_220 ?_
    refine jtopr ex48.symm ?_
    refine va_sld hx hb hX hbl hbA hS (jin tx48 (by omega) (by omega)) dL_law_221 ?_
    refine lv_aload_n hx hb dL_law_222 rfl (lv_at hl 3 rfl) ?_
    refine lv_iload_n hx hb dL_law_223 rfl (lv_at hl 0 rfl) ?_
    refine lv_iconst (v := 2) hx hb dL_law_224 (by decide) ?_
    refine lv_iadd hx hb dL_law_225 ?_
    refine jtopr ex50.symm ?_
    refine va_sld hx hb hX hbl hbA hS (jin tx50 (by omega) (by omega)) dL_law_226 ?_
    refine lv_aload_n hx hb dL_law_227 rfl (lv_at hl 3 rfl) ?_
    refine lv_iload_n hx hb dL_law_228 rfl (lv_at hl 0 rfl) ?_
    refine lv_iconst (v := 3) hx hb dL_law_229 (by decide) ?_
    refine lv_iadd hx hb dL_law_230 ?_
    refine jtopr ex52.symm ?_
    refine va_sld hx hb hX hbl hbA hS (jin tx52 (by omega) (by omega)) dL_law_231 ?_
    have I296 : jI101 σ54 := jI101_fr (congrFun (f56 55 (by decide)) 4) (congrFun (f56 55 (by decide)) 5) (f56 56 (by decide)) (f56 57 (by decide)) (f56 58 (by decide)) (f56 59 (by decide)) hI101
    have I297 : jI102 σ54 := jI102_fr (congrFun (f56 55 (by decide)) 6) (f56 60 (by decide)) (f56 61 (by decide)) hI102
    have z298 : (σ54 55 6).toInt = (σ 55 6).toInt := (congrArg Int32.toInt (show σ54 55 6 = (σ 55 6) from (congrFun (f56 55 (by decide)) 6)))
    refine jcallV (As := [.int (xs x48.toNatClampNeg), .int (xs x50.toNatClampNeg), .int (xs x52.toNatClampNeg)]) (rest := []) ⟨hx, hb, hml, hown, hts⟩ hK hP hA hS hZ (c_X12_bowler l D cI cL ad zz hJ σ54 τ (xs x48.toNatClampNeg) ((xs x48.toNatClampNeg).toInt) rfl (xs x50.toNatClampNeg) ((xs x50.toNatClampNeg).toInt) rfl (xs x52.toNatClampNeg) ((xs x52.toNatClampNeg).toInt) rfl I296 I297) cw_RL_17 (jc_55 cI cL ad σ54 τ) rfl ⟨Nat.le_of_ble_eq_true rfl, Nat.le_of_ble_eq_true rfl⟩ rfl rfl rfl hl.1 rfl (Nat.le_of_ble_eq_true rfl) dL_law_232 ⟨Nat.le_of_ble_eq_true rfl, Nat.le_of_ble_eq_true rfl⟩ (fun r300 σ299 τ299 H locs h299 hP hS => ?_)
    obtain ⟨rfl, f301, f302, I303, I304, h299⟩ := h299
    obtain ⟨i306, i307, i308, w309, w310, w311, w312⟩ : (0 ≤ (σ299 55 5).toInt) ∧ ((σ299 55 5).toInt ≤ (σ299 55 4).toInt) ∧ ((σ299 55 4).toInt ≤ 40) ∧ (∀ k : Nat, k < 68 → (-200) ≤ (σ299 56 k).toInt ∧ (σ299 56 k).toInt ≤ 500) ∧ (∀ k : Nat, k < 40 → 0 ≤ (σ299 57 k).toInt ∧ (σ299 57 k).toInt ≤ 67) ∧ (∀ k : Nat, k < 40 → (-200) ≤ (σ299 58 k).toInt ∧ (σ299 58 k).toInt ≤ 500) ∧ (∀ k : Nat, k < 40 → (-200) ≤ (σ299 59 k).toInt ∧ (σ299 59 k).toInt ≤ 500) := id I303
    obtain ⟨i313, w314, w315⟩ : (0 ≤ (σ299 55 6).toInt ∧ (σ299 55 6).toInt ≤ 4) ∧ (∀ k : Nat, k < 4 → 0 ≤ (σ299 60 k).toInt ∧ (σ299 60 k).toInt ≤ 50) ∧ (∀ k : Nat, k < 4 → 0 ≤ (σ299 61 k).toInt ∧ (σ299 61 k).toInt ≤ 20) := id I304
    have z316 : (σ299 55 5).toInt = (σ 55 5).toInt := (congrArg Int32.toInt (show σ299 55 5 = (σ 55 5) from ((f302 5 (by decide)).trans (congrFun (f56 55 (by decide)) 5))))
    have z317 : (σ299 55 4).toInt = (σ 55 4).toInt := (congrArg Int32.toInt (show σ299 55 4 = (σ 55 4) from ((f302 4 (by decide)).trans (congrFun (f56 55 (by decide)) 4))))
    rcases h299 with h318 | h319 | h320
    · obtain ⟨q324, k321, k322, k323⟩ := h318
      exact absurd (by omega : False) id
    · obtain ⟨q331, k325, k326, k327, k328, k329, k330⟩ := h319
      exact absurd (by omega : False) id
    · obtain ⟨q340, k332, k333, k334, k335, k336, k337, k338, k339⟩ := h320
      refine lv_pop hx hb dL_law_235 rfl ?_
      refine lv_goto (tgt := 1357) hx hb dL_law_236 (by decide) ?_
      obtain ⟨x341, ex341⟩ : ∃ y : Int32, y = x0 + 6 := ⟨_, rfl⟩
      have tx341 : x341.toInt = x0.toInt + 6 := (jadd ex341 rfl jz_6 (by omega) (by omega)).trans (by omega)
      refine lv_iinc (v := x341) (lv' := [(3, .int x341), (2, .ref (ad 55)), (1, .ref (ad 0)), (0, .ref b)]) hx hb dL_law_1357 hl (k := 0) rfl (by rw [ex341]; rfl) (by decide) rfl (fun ls hl => ?_)
      refine lv_goto (tgt := 18) hx hb dL_law_1360 (by decide) ?_
      have I342 : jI2 σ299 := jI2_fr (congrFun (f301 2 (by decide)) 0) (congrFun (f301 2 (by decide)) 1) (congrFun (f301 2 (by decide)) 2) (congrFun (f301 2 (by decide)) 3) (f301 6 (by decide)) I58
      have I343 : jI9 σ299 := jI9_fr ((congrFun (f301 9 (by decide)) 0).trans (congrFun (f56 9 (by decide)) 0)) ((f301 10 (by decide)).trans (f56 10 (by decide))) ((f301 11 (by decide)).trans (f56 11 (by decide))) hI9
      have I344 : jI12 σ299 := jI12_fr ((congrFun (f301 12 (by decide)) 0).trans (congrFun (f56 12 (by decide)) 0)) ((f301 13 (by decide)).trans (f56 13 (by decide))) hI12
      have I345 : jI16 σ299 := jI16_fr ((congrFun (f301 16 (by decide)) 0).trans (congrFun (f56 16 (by decide)) 0)) ((congrFun (f301 16 (by decide)) 1).trans (congrFun (f56 16 (by decide)) 1)) ((congrFun (f301 16 (by decide)) 2).trans (congrFun (f56 16 (by decide)) 2)) ((f301 17 (by decide)).trans (f56 17 (by decide))) hI16
      have I346 : jI18 σ299 := jI18_fr ((congrFun (f301 18 (by decide)) 0).trans (congrFun (f56 18 (by decide)) 0)) ((f301 19 (by decide)).trans (f56 19 (by decide))) hI18
      have I347 : jI22 σ299 := jI22_fr ((congrFun (f301 22 (by decide)) 0).trans (congrFun (f56 22 (by decide)) 0)) ((f301 23 (by decide)).trans (f56 23 (by decide))) hI22
      have I348 : jI31 σ299 := jI31_fr ((congrFun (f301 31 (by decide)) 8).trans (congrFun (f56 31 (by decide)) 8)) ((congrFun (f301 31 (by decide)) 10).trans (congrFun (f56 31 (by decide)) 10)) ((congrFun (f301 31 (by decide)) 11).trans (congrFun (f56 31 (by decide)) 11)) ((f301 33 (by decide)).trans (f56 33 (by decide))) ((f301 35 (by decide)).trans (f56 35 (by decide))) ((f301 36 (by decide)).trans (f56 36 (by decide))) hI31
      have I349 : jI38 σ299 := jI38_fr ((congrFun (f301 38 (by decide)) 0).trans (congrFun (f56 38 (by decide)) 0)) ((congrFun (f301 38 (by decide)) 1).trans (congrFun (f56 38 (by decide)) 1)) ((f301 39 (by decide)).trans (f56 39 (by decide))) hI38
      have I350 : jI43 σ299 := jI43_fr ((congrFun (f301 43 (by decide)) 8).trans (congrFun (f56 43 (by decide)) 8)) hI43
      have I351 : jI47 σ299 := jI47_fr ((congrFun (f301 47 (by decide)) 0).trans (congrFun (f56 47 (by decide)) 0)) ((f301 48 (by decide)).trans (f56 48 (by decide))) ((f301 49 (by decide)).trans (f56 49 (by decide))) hI47
      have I352 : jI50 σ299 := jI50_fr ((f301 52 (by decide)).trans (f56 52 (by decide))) hI50
      have I353 : jI0 σ299 := jI0_fr ((f301 1 (by decide)).trans (f56 1 (by decide))) hI0
      have I354 : jI26 σ299 := jI26_fr ((congrFun (f301 26 (by decide)) 6).trans (congrFun (f56 26 (by decide)) 6)) hI26
      have I355 : jI103 σ299 := jI103_fr ((f302 9 (by decide)).trans (congrFun (f56 55 (by decide)) 9)) hI103
      have I356 : jI104 σ299 := jI104_fr ((f302 10 (by decide)).trans (congrFun (f56 55 (by decide)) 10)) ((f302 12 (by decide)).trans (congrFun (f56 55 (by decide)) 12)) ((f302 13 (by decide)).trans (congrFun (f56 55 (by decide)) 13)) ((f301 62 (by decide)).trans (f56 62 (by decide))) ((f301 67 (by decide)).trans (f56 67 (by decide))) hI104
      have I357 : jI105 σ299 := jI105_fr ((f302 15 (by decide)).trans (congrFun (f56 55 (by decide)) 15)) ((f301 65 (by decide)).trans (f56 65 (by decide))) hI105
      have I358 : jI106 σ299 := jI106_fr ((f302 32 (by decide)).trans (congrFun (f56 55 (by decide)) 32)) ((f301 70 (by decide)).trans (f56 70 (by decide))) ((f301 71 (by decide)).trans (f56 71 (by decide))) ((f301 72 (by decide)).trans (f56 72 (by decide))) hI106
      have I359 : jI107 σ299 := jI107_fr ((f302 12 (by decide)).trans (congrFun (f56 55 (by decide)) 12)) ((f302 47 (by decide)).trans (congrFun (f56 55 (by decide)) 47)) ((f301 80 (by decide)).trans (f56 80 (by decide))) hI107
      have I360 : jI109 σ299 := jI109_fr ((f302 50 (by decide)).trans (congrFun (f56 55 (by decide)) 50)) hI109
      have I361 : jI110 σ299 := jI110_fr ((f301 86 (by decide)).trans (f56 86 (by decide))) ((f301 87 (by decide)).trans (f56 87 (by decide))) hI110
      have I362 : jI111 σ299 := jI111_fr ((f301 79 (by decide)).trans (f56 79 (by decide))) hI111
      have I363 : jI119 σ299 := jI119_fr ((f301 68 (by decide)).trans (f56 68 (by decide))) hI119
      have p364 : jKept σ299 := jKept.fr ((f301 75 (by decide)).trans (f56 75 (by decide))) ((f301 76 (by decide)).trans (f56 76 (by decide))) ((f301 77 (by decide)).trans (f56 77 (by decide))) hs_jKept
      have p365 : jBook σ299 := jBook.fr ((f302 47 (by decide)).trans (congrFun (f56 55 (by decide)) 47)) ((f302 10 (by decide)).trans (congrFun (f56 55 (by decide)) 10)) ((f301 81 (by decide)).trans (f56 81 (by decide))) hs_jBook
      have p366 : jNd12 σ299 := jNd12.fr ((congrFun (f301 12 (by decide)) 0).trans (congrFun (f56 12 (by decide)) 0)) ((congrFun (f301 12 (by decide)) 1).trans (congrFun (f56 12 (by decide)) 1)) ((f301 13 (by decide)).trans (f56 13 (by decide))) hs_jNd12
      have p367 : jN67 σ299 := jN67.fr ((f301 24 (by decide)).trans (f56 24 (by decide))) hs_jN67
      have p368 : jBl σ299 := jBl.fr ((congrFun (f301 22 (by decide)) 0).trans (congrFun (f56 22 (by decide)) 0)) ((congrFun (f301 22 (by decide)) 1).trans (congrFun (f56 22 (by decide)) 1)) ((f301 23 (by decide)).trans (f56 23 (by decide))) ((congrFun (f301 26 (by decide)) 6).trans (congrFun (f56 26 (by decide)) 6)) ((congrFun (f301 26 (by decide)) 7).trans (congrFun (f56 26 (by decide)) 7)) ((f301 29 (by decide)).trans (f56 29 (by decide))) ((f301 30 (by decide)).trans (f56 30 (by decide))) hs_jBl
      have p369 : jKb σ299 := jKb.fr ((congrFun (f301 31 (by decide)) 8).trans (congrFun (f56 31 (by decide)) 8)) ((congrFun (f301 31 (by decide)) 11).trans (congrFun (f56 31 (by decide)) 11)) ((f301 32 (by decide)).trans (f56 32 (by decide))) hs_jKb
      have p370 : jTR σ299 := jTR.fr ((f301 64 (by decide)).trans (f56 64 (by decide))) ((f301 65 (by decide)).trans (f56 65 (by decide))) hs_jTR
      have p371 : jKh σ299 := jKh.fr ((congrFun (f301 31 (by decide)) 8).trans (congrFun (f56 31 (by decide)) 8)) ((f301 32 (by decide)).trans (f56 32 (by decide))) ((f301 36 (by decide)).trans (f56 36 (by decide))) ((f301 37 (by decide)).trans (f56 37 (by decide))) hs_jKh
      have p372 : jKg σ299 := jKg.fr ((congrFun (f301 31 (by decide)) 8).trans (congrFun (f56 31 (by decide)) 8)) ((congrFun (f301 31 (by decide)) 9).trans (congrFun (f56 31 (by decide)) 9)) ((congrFun (f301 31 (by decide)) 11).trans (congrFun (f56 31 (by decide)) 11)) ((congrFun (f301 31 (by decide)) 12).trans (congrFun (f56 31 (by decide)) 12)) ((f301 32 (by decide)).trans (f56 32 (by decide))) ((f301 33 (by decide)).trans (f56 33 (by decide))) hs_jKg
      have z373 : (σ299 2 0).toInt = (σ54 2 0).toInt := (congrArg Int32.toInt (show σ299 2 0 = (σ54 2 0) from (congrFun (f301 2 (by decide)) 0)))
      have z374 : (σ299 2 2).toInt = (σ 2 2).toInt := (congrArg Int32.toInt (show σ299 2 2 = (σ 2 2) from ((congrFun (f301 2 (by decide)) 2).trans (f57 2 (by decide)))))
      have z375 : (σ299 2 3).toInt = (σ 2 3).toInt := (congrArg Int32.toInt (show σ299 2 3 = (σ 2 3) from ((congrFun (f301 2 (by decide)) 3).trans (f57 3 (by decide)))))
      have z376 : (σ299 9 0).toInt = (σ 9 0).toInt := (congrArg Int32.toInt (show σ299 9 0 = (σ 9 0) from ((congrFun (f301 9 (by decide)) 0).trans (congrFun (f56 9 (by decide)) 0))))
      have z377 : (σ299 55 15).toInt = (σ 55 15).toInt := (congrArg Int32.toInt (show σ299 55 15 = (σ 55 15) from ((f302 15 (by decide)).trans (congrFun (f56 55 (by decide)) 15))))
      have z378 : (σ299 16 0).toInt = (σ 16 0).toInt := (congrArg Int32.toInt (show σ299 16 0 = (σ 16 0) from ((congrFun (f301 16 (by decide)) 0).trans (congrFun (f56 16 (by decide)) 0))))
      have z379 : (σ299 55 10).toInt = (σ 55 10).toInt := (congrArg Int32.toInt (show σ299 55 10 = (σ 55 10) from ((f302 10 (by decide)).trans (congrFun (f56 55 (by decide)) 10))))
      have z380 : (σ299 16 1).toInt = (σ 16 1).toInt := (congrArg Int32.toInt (show σ299 16 1 = (σ 16 1) from ((congrFun (f301 16 (by decide)) 1).trans (congrFun (f56 16 (by decide)) 1))))
      have z381 : (σ299 55 12).toInt = (σ 55 12).toInt := (congrArg Int32.toInt (show σ299 55 12 = (σ 55 12) from ((f302 12 (by decide)).trans (congrFun (f56 55 (by decide)) 12))))
      have z382 : (σ299 16 2).toInt = (σ 16 2).toInt := (congrArg Int32.toInt (show σ299 16 2 = (σ 16 2) from ((congrFun (f301 16 (by decide)) 2).trans (congrFun (f56 16 (by decide)) 2))))
      have z383 : (σ299 55 13).toInt = (σ 55 13).toInt := (congrArg Int32.toInt (show σ299 55 13 = (σ 55 13) from ((f302 13 (by decide)).trans (congrFun (f56 55 (by decide)) 13))))
      have z384 : (σ299 38 0).toInt = (σ 38 0).toInt := (congrArg Int32.toInt (show σ299 38 0 = (σ 38 0) from ((congrFun (f301 38 (by decide)) 0).trans (congrFun (f56 38 (by decide)) 0))))
      have z385 : (σ299 55 32).toInt = (σ 55 32).toInt := (congrArg Int32.toInt (show σ299 55 32 = (σ 55 32) from ((f302 32 (by decide)).trans (congrFun (f56 55 (by decide)) 32))))
      have z386 : (σ299 38 1).toInt = (σ 38 1).toInt := (congrArg Int32.toInt (show σ299 38 1 = (σ 38 1) from ((congrFun (f301 38 (by decide)) 1).trans (congrFun (f56 38 (by decide)) 1))))
      have z387 : (σ299 55 55).toInt = (σ 55 55).toInt := (congrArg Int32.toInt (show σ299 55 55 = (σ 55 55) from ((f302 55 (by decide)).trans (congrFun (f56 55 (by decide)) 55))))
      have z388 : (σ299 47 0).toInt = (σ 47 0).toInt := (congrArg Int32.toInt (show σ299 47 0 = (σ 47 0) from ((congrFun (f301 47 (by decide)) 0).trans (congrFun (f56 47 (by decide)) 0))))
      have z389 : (σ299 55 47).toInt = (σ 55 47).toInt := (congrArg Int32.toInt (show σ299 55 47 = (σ 55 47) from ((f302 47 (by decide)).trans (congrFun (f56 55 (by decide)) 47))))
      have z390 : (σ299 55 30).toInt = (σ 55 30).toInt := (congrArg Int32.toInt (show σ299 55 30 = (σ 55 30) from ((f302 30 (by decide)).trans (congrFun (f56 55 (by decide)) 30))))
      have z391 : (σ299 55 31).toInt = (σ 55 31).toInt := (congrArg Int32.toInt (show σ299 55 31 = (σ 55 31) from ((f302 31 (by decide)).trans (congrFun (f56 55 (by decide)) 31))))
      have z392 : (σ299 2 1).toInt = (σ 2 1).toInt := (congrArg Int32.toInt (show σ299 2 1 = (σ 2 1) from ((congrFun (f301 2 (by decide)) 1).trans (f57 1 (by decide)))))
      have z393 : (σ299 55 9).toInt = (σ 55 9).toInt := (congrArg Int32.toInt (show σ299 55 9 = (σ 55 9) from ((f302 9 (by decide)).trans (congrFun (f56 55 (by decide)) 9))))
      have z394 : (σ299 26 6).toInt = (σ 26 6).toInt := (congrArg Int32.toInt (show σ299 26 6 = (σ 26 6) from ((congrFun (f301 26 (by decide)) 6).trans (congrFun (f56 26 (by decide)) 6))))
      rw [show (σ 2 0).toInt = (σ 55 6).toInt from by omega] at k293
      rw [show σ54 56 = σ 56 from (f56 56 (by decide)), show (σ54 55 6).toInt = (σ 55 6).toInt from by omega] at k338
      have p395 := hr0.bowler k293 k338 (by omega) (by omega) (show (σ299 55 6).toInt = (σ 55 6).toInt + 1 from by omega)
      rw [show (σ 2 0).toInt = (σ 55 6).toInt from by omega] at k294
      rw [show (σ54 55 6).toInt = (σ 55 6).toInt from by omega, show σ54 60 = σ 60 from (f56 60 (by decide)), show σ54 61 = σ 61 from (f56 61 (by decide))] at k339
      have z397 : (σ299 18 0).toInt = (σ 18 0).toInt := (congrArg Int32.toInt (show σ299 18 0 = (σ 18 0) from ((congrFun (f301 18 (by decide)) 0).trans (congrFun (f56 18 (by decide)) 0))))
      have z398 : (σ299 22 0).toInt = (σ 22 0).toInt := (congrArg Int32.toInt (show σ299 22 0 = (σ 22 0) from ((congrFun (f301 22 (by decide)) 0).trans (congrFun (f56 22 (by decide)) 0))))
      exact ih x341 σ299 τ _ _ ls (by have h9 := tx341; omega) ⟨I342, I343, I344, I345, I346, I347, I348, I349, I350, I351, I352, I353, I354, I303, I304, I355, I356, I357, I358, I359, I360, I361, I362, I363, p364, p365, p366, p367, p368, p369, p370, p371, p372, (by omega), (by omega), (by omega), (by omega), (by omega), (by omega), (by omega), (by omega), (by omega), (by omega), (by omega), (by omega), (by omega), (by have h9 := tx341; omega), (show jNumP (σ299 3) (σ299 56) (σ299 6) (σ299 57) (σ299 7) (σ299 58) (σ299 8) (σ299 59) (σ299 55 6).toInt (σ299 55 4).toInt by rw [show σ299 3 = σ54 3 from (f301 3 (by decide)), show σ299 6 = σ 6 from ((f301 6 (by decide)).trans (f56 6 (by decide))), show σ299 57 = σ 57 from ((f301 57 (by decide)).trans (f56 57 (by decide))), show σ299 7 = σ 7 from ((f301 7 (by decide)).trans (f56 7 (by decide))), show σ299 58 = σ 58 from ((f301 58 (by decide)).trans (f56 58 (by decide))), show σ299 8 = σ 8 from ((f301 8 (by decide)).trans (f56 8 (by decide))), show σ299 59 = σ 59 from ((f301 59 (by decide)).trans (f56 59 (by decide))), show (σ299 55 4).toInt = (σ 55 4).toInt from by omega]; exact p395), (show jOvP (σ299 56) (σ299 57) (σ299 58) (σ299 59) (σ299 55 4).toInt by rw [show σ299 57 = σ 57 from ((f301 57 (by decide)).trans (f56 57 (by decide))), show σ299 58 = σ 58 from ((f301 58 (by decide)).trans (f56 58 (by decide))), show σ299 59 = σ 59 from ((f301 59 (by decide)).trans (f56 59 (by decide))), show (σ299 55 4).toInt = (σ 55 4).toInt from by omega]; exact (hr1.bowler k338 (by omega) ⟨by omega, by omega⟩)), (show jTp (σ299 10) (σ299 63) (σ299 55 15).toInt by rw [show σ299 10 = σ 10 from ((f301 10 (by decide)).trans (f56 10 (by decide))), show σ299 63 = σ 63 from ((f301 63 (by decide)).trans (f56 63 (by decide)))]; exact hr2.le (by omega)), (show jSo (σ299 17) (σ299 62) (σ299 16 0).toInt by rw [show σ299 17 = σ 17 from ((f301 17 (by decide)).trans (f56 17 (by decide))), show σ299 62 = σ 62 from ((f301 62 (by decide)).trans (f56 62 (by decide))), show (σ299 16 0).toInt = (σ 16 0).toInt from by omega]; exact hr3), (show jShP (σ299 51) (σ299 52) (σ299 53) (σ299 86) (σ299 87) (σ299 55 32).toInt by rw [show σ299 51 = σ 51 from ((f301 51 (by decide)).trans (f56 51 (by decide))), show σ299 52 = σ 52 from ((f301 52 (by decide)).trans (f56 52 (by decide))), show σ299 53 = σ 53 from ((f301 53 (by decide)).trans (f56 53 (by decide))), show σ299 86 = σ 86 from ((f301 86 (by decide)).trans (f56 86 (by decide))), show σ299 87 = σ 87 from ((f301 87 (by decide)).trans (f56 87 (by decide)))]; exact (hr4.up (by omega) (by omega))), (show jEl (σ299 51) (σ299 52) (τ 54) (τ 88) by rw [show σ299 51 = σ 51 from ((f301 51 (by decide)).trans (f56 51 (by decide))), show σ299 52 = σ 52 from ((f301 52 (by decide)).trans (f56 52 (by decide)))]; exact hr5), (show jByP (σ299 51) (σ299 52) (τ 54) by rw [show σ299 51 = σ 51 from ((f301 51 (by decide)).trans (f56 51 (by decide))), show σ299 52 = σ 52 from ((f301 52 (by decide)).trans (f56 52 (by decide)))]; exact hr6), (show jBk (σ299 48) (σ299 80) (σ299 49) (σ299 81) (σ299 55 47).toInt by rw [show σ299 48 = σ 48 from ((f301 48 (by decide)).trans (f56 48 (by decide))), show σ299 49 = σ 49 from ((f301 49 (by decide)).trans (f56 49 (by decide))), show σ299 80 = σ 80 from ((f301 80 (by decide)).trans (f56 80 (by decide))), show σ299 81 = σ 81 from ((f301 81 (by decide)).trans (f56 81 (by decide))), show (σ299 55 47).toInt = (σ 55 47).toInt from by omega]; exact hr7), (show jKd (σ299 39) (σ299 70) (σ299 55 32).toInt by rw [show σ299 39 = σ 39 from ((f301 39 (by decide)).trans (f56 39 (by decide))), show σ299 70 = σ 70 from ((f301 70 (by decide)).trans (f56 70 (by decide))), show (σ299 55 32).toInt = (σ 55 32).toInt from by omega]; exact hr8), (show jTt (σ299 42) (σ299 85) (σ299 55 55).toInt by rw [show σ299 42 = σ 42 from ((f301 42 (by decide)).trans (f56 42 (by decide))), show σ299 85 = σ 85 from ((f301 85 (by decide)).trans (f56 85 (by decide))), show (σ299 55 55).toInt = (σ 55 55).toInt from by omega]; exact hr9), (jTc_on hr10 ⟨((show σ299 4 = σ54 4 from (f301 4 (by decide))).trans k294.1), ((show σ299 5 = σ54 5 from (f301 5 (by decide))).trans k294.2)⟩ k339 (show (σ299 55 6).toInt = (σ 55 6).toInt + 1 from by omega) (by omega)), (fun nm => by rw [show σ299 19 = σ 19 from ((f301 19 (by decide)).trans (f56 19 (by decide))), show σ299 64 = σ 64 from ((f301 64 (by decide)).trans (f56 64 (by decide))), show σ299 65 = σ 65 from ((f301 65 (by decide)).trans (f56 65 (by decide))), show (σ299 18 0).toInt = (σ 18 0).toInt from by omega]; exact hr11 nm), (fun nm => by rw [show σ299 23 = σ 23 from ((f301 23 (by decide)).trans (f56 23 (by decide))), show σ299 64 = σ 64 from ((f301 64 (by decide)).trans (f56 64 (by decide))), show σ299 65 = σ 65 from ((f301 65 (by decide)).trans (f56 65 (by decide))), show (σ299 22 0).toInt = (σ 22 0).toInt from by omega]; exact hr12 nm)⟩ hP hS (lv_sub hl [0, 1, 2, 3] rfl)
set_option maxHeartbeats 4000000 in
set_option maxRecDepth 100000 in
theorem law_case_1 {p : Program} {e : Env} {s : State} {m : MethodId} {below : List Frame} {meth : Method} {c : Code} (l : Launch) {b L : Nat} {xs : Nat → Int32} {D : va_G} {cI cL : ClassId} {ad zz : Nat → Nat} (C0 : lw_At p s m meth c b L xs) (hJ : jD ad) (hA : ∀ q, jA ad q → s.heap.size ≤ q) (hK : jK D cI cL s) (hZ : jZ zz (fun q : Nat => s.heap.size ≤ q) s s.heap) {x0 : Int32} (hx0 : 0 ≤ x0.toInt) (hxL : x0.toInt + 6 ≤ (L : Int)) (hL : L ≤ 384) {σ : Nat → Nat → Int32} {τ : Nat → Nat → Int64} {H : Heap} {locs : List Loc} (hS : va_S (fun q : Nat => s.heap.size ≤ q) s.heap H locs) {ls : Array Slot} (hAll : jAll x0.toInt σ τ) (hP : jH D cI cL ad σ τ H) (hl : lv_has ls 4 [(3, .int x0), (2, .ref (ad 55)), (1, .ref (ad 0)), (0, .ref b)]) (ih : ∀ (x1 : Int32) (σ : Nat → Nat → Int32) (τ : Nat → Nat → Int64) (H : Heap) (locs : List Loc) (ls : Array Slot), x1.toInt = x0.toInt + 6 → jAll x1.toInt σ τ → jH D cI cL ad σ τ H → va_S (fun q : Nat => s.heap.size ≤ q) s.heap H locs → lv_has ls 4 [(3, .int x1), (2, .ref (ad 55)), (1, .ref (ad 0)), (0, .ref b)] → W p l e room_1 s m #[Value.ref b] below meth c H locs 90 348600 (lw_Z below #[Value.ref b] s) (F0 m 18 ls [])) : W p l e room_1 s m #[Value.ref b] below meth c H locs 90 348600 (lw_Z below #[Value.ref b] s) (F0 m 239 ls []) := by
  obtain ⟨hx, hb, hr, hml, hown, hts0, hX, hbl, hlocks, hgv⟩ := C0
  have hts : ∀ w ∈ wsL_law, w.before #[Value.ref b] s = true := fun w h => hts0 w (wsL_law_in w h)
  have hbA : ¬ (fun q : Nat => s.heap.size ≤ q) b := Nat.not_le.mpr hbl
  have hown : s.vm.findClass RL = some m.cls := hown
  obtain ⟨hI2, hI9, hI12, hI16, hI18, hI22, hI31, hI38, hI43, hI47, hI50, hI0, hI26, hI101, hI102, hI103, hI104, hI105, hI106, hI107, hI109, hI110, hI111, hI119, hs_jKept, hs_jBook, hs_jNd12, hs_jN67, hs_jBl, hs_jKb, hs_jTR, hs_jKh, hs_jKg, ht0, ht1, ht2, ht3, ht4, ht5, ht6, ht7, ht8, ht9, ht10, ht11, ht12, ht13, hr0, hr1, hr2, hr3, hr4, hr5, hr6, hr7, hr8, hr9, hr10, hr11, hr12⟩ := hAll
  have hL9 : (L : Int) ≤ 384 := by omega
  obtain ⟨i1, i2, i3, i4, i5, w6⟩ : (0 ≤ (σ 2 0).toInt ∧ (σ 2 0).toInt ≤ 4) ∧ (0 ≤ (σ 2 1).toInt ∧ (σ 2 1).toInt ≤ 3) ∧ (0 ≤ (σ 2 2).toInt) ∧ (0 ≤ (σ 2 3).toInt) ∧ ((σ 2 2).toInt + (σ 2 3).toInt ≤ 40) ∧ (∀ k : Nat, k < 40 → 0 ≤ (σ 6 k).toInt ∧ (σ 6 k).toInt ≤ 67) := id hI2
  obtain ⟨i7, w8, w9⟩ : (0 ≤ (σ 9 0).toInt ∧ (σ 9 0).toInt ≤ 80) ∧ (∀ k : Nat, k < 80 → 0 ≤ (σ 10 k).toInt ∧ (σ 10 k).toInt ≤ 255) ∧ (∀ k : Nat, k < 8 → 0 ≤ (σ 11 k).toInt ∧ (σ 11 k).toInt ≤ 3) := id hI9
  obtain ⟨i10, i11, i12, w13⟩ : (1 ≤ (σ 16 0).toInt ∧ (σ 16 0).toInt ≤ 8) ∧ (1 ≤ (σ 16 1).toInt ∧ (σ 16 1).toInt ≤ 12) ∧ (0 ≤ (σ 16 2).toInt ∧ (σ 16 2).toInt ≤ 999) ∧ (∀ k : Nat, k < 8 → 0 ≤ (σ 17 k).toInt ∧ (σ 17 k).toInt ≤ 3) := id hI16
  obtain ⟨i14, i15, w16⟩ : (0 ≤ (σ 38 0).toInt ∧ (σ 38 0).toInt ≤ 20) ∧ (0 ≤ (σ 38 1).toInt ∧ (σ 38 1).toInt ≤ 1000) ∧ (∀ k : Nat, k < 20 → 0 ≤ (σ 39 k).toInt ∧ (σ 39 k).toInt ≤ 6) := id hI38
  obtain ⟨i17, w18, w19⟩ : (0 ≤ (σ 47 0).toInt ∧ (σ 47 0).toInt ≤ 12) ∧ (∀ k : Nat, k < 12 → 0 ≤ (σ 48 k).toInt ∧ (σ 48 k).toInt ≤ 3) ∧ (∀ k : Nat, k < 12 → 0 ≤ (σ 49 k).toInt ∧ (σ 49 k).toInt ≤ 1) := id hI47
  have w20 : ∀ k : Nat, k < 6 → 0 ≤ (σ 52 k).toInt ∧ (σ 52 k).toInt ≤ 60 := hI50
  have i21 : 1 ≤ (σ 26 6).toInt ∧ (σ 26 6).toInt ≤ 8000 := hI26
  obtain ⟨i22, i23, i24, w25, w26, w27, w28⟩ : (0 ≤ (σ 55 5).toInt) ∧ ((σ 55 5).toInt ≤ (σ 55 4).toInt) ∧ ((σ 55 4).toInt ≤ 40) ∧ (∀ k : Nat, k < 68 → (-200) ≤ (σ 56 k).toInt ∧ (σ 56 k).toInt ≤ 500) ∧ (∀ k : Nat, k < 40 → 0 ≤ (σ 57 k).toInt ∧ (σ 57 k).toInt ≤ 67) ∧ (∀ k : Nat, k < 40 → (-200) ≤ (σ 58 k).toInt ∧ (σ 58 k).toInt ≤ 500) ∧ (∀ k : Nat, k < 40 → (-200) ≤ (σ 59 k).toInt ∧ (σ 59 k).toInt ≤ 500) := id hI101
  obtain ⟨i29, w30, w31⟩ : (0 ≤ (σ 55 6).toInt ∧ (σ 55 6).toInt ≤ 4) ∧ (∀ k : Nat, k < 4 → 0 ≤ (σ 60 k).toInt ∧ (σ 60 k).toInt ≤ 50) ∧ (∀ k : Nat, k < 4 → 0 ≤ (σ 61 k).toInt ∧ (σ 61 k).toInt ≤ 20) := id hI102
  have i32 : 0 ≤ (σ 55 9).toInt ∧ (σ 55 9).toInt ≤ 3 := hI103
  obtain ⟨i33, i34, i35, w36, w37⟩ : (1 ≤ (σ 55 10).toInt ∧ (σ 55 10).toInt ≤ 8) ∧ (1 ≤ (σ 55 12).toInt ∧ (σ 55 12).toInt ≤ 12) ∧ (0 ≤ (σ 55 13).toInt ∧ (σ 55 13).toInt ≤ 999) ∧ (∀ k : Nat, k < 8 → 0 ≤ (σ 62 k).toInt ∧ (σ 62 k).toInt ≤ 3) ∧ (∀ k : Nat, k < 8 → 0 ≤ (σ 67 k).toInt ∧ (σ 67 k).toInt ≤ 3) := id hI104
  obtain ⟨i38, w39⟩ : (0 ≤ (σ 55 15).toInt ∧ (σ 55 15).toInt ≤ 80) ∧ (∀ k : Nat, k < 2 → (-1) ≤ (σ 65 k).toInt ∧ (σ 65 k).toInt ≤ 80) := id hI105
  obtain ⟨i40, w41, w42, w43⟩ : (0 ≤ (σ 55 32).toInt ∧ (σ 55 32).toInt ≤ 20) ∧ (∀ k : Nat, k < 20 → 0 ≤ (σ 70 k).toInt ∧ (σ 70 k).toInt ≤ 6) ∧ (∀ k : Nat, k < 20 → 0 ≤ (σ 71 k).toInt ∧ (σ 71 k).toInt ≤ 8) ∧ (∀ k : Nat, k < 160 → 0 ≤ (σ 72 k).toInt ∧ (σ 72 k).toInt ≤ 3) := id hI106
  obtain ⟨i44, i45, w46⟩ : (0 ≤ (σ 55 47).toInt ∧ (σ 55 47).toInt ≤ 12) ∧ ((σ 55 47).toInt ≤ (σ 55 12).toInt) ∧ (∀ k : Nat, k < 12 → 0 ≤ (σ 80 k).toInt ∧ (σ 80 k).toInt ≤ 3) := id hI107
  have hs_jOk3 : jOk3 σ := hr0.ok hr1.1
  refine lv_aload_n hx hb dL_law_239 rfl (lv_at hl 2 rfl) ?_
  refine lv_aload_n hx hb dL_law_240 rfl (lv_at hl 3 rfl) ?_
  refine lv_iload_n hx hb dL_law_241 rfl (lv_at hl 0 rfl) ?_
  refine lv_iconst (v := 1) hx hb dL_law_242 (by decide) ?_
  have g47 := jrg (rfl : x0.toInt = x0.toInt)
  refine lv_iadd hx hb dL_law_243 ?_
  refine lv_topi (fun x48 ex48 => ?_)
  have tx48 : x48.toInt = x0.toInt + 1 := (jadd ex48 rfl jz_1 (by omega) (by omega)).trans (by omega)
  refine va_sld hx hb hX hbl hbA hS (jin tx48 (by omega) (by omega)) dL_law_244 ?_
  have g49 := jrg (rfl : (xs x48.toNatClampNeg).toInt = (xs x48.toNatClampNeg).toInt)
  refine lv_aload_n hx hb dL_law_245 rfl (lv_at hl 3 rfl) ?_
  refine lv_iload_n hx hb dL_law_246 rfl (lv_at hl 0 rfl) ?_
  refine lv_iconst (v := 2) hx hb dL_law_247 (by decide) ?_
  refine lv_iadd hx hb dL_law_248 ?_
  refine lv_topi (fun x50 ex50 => ?_)
  have tx50 : x50.toInt = x0.toInt + 2 := (jadd ex50 rfl jz_2 (by omega) (by omega)).trans (by omega)
  refine va_sld hx hb hX hbl hbA hS (jin tx50 (by omega) (by omega)) dL_law_249 ?_
  have g51 := jrg (rfl : (xs x50.toNatClampNeg).toInt = (xs x50.toNatClampNeg).toInt)
  refine lv_aload_n hx hb dL_law_250 rfl (lv_at hl 3 rfl) ?_
  refine lv_iload_n hx hb dL_law_251 rfl (lv_at hl 0 rfl) ?_
  refine lv_iconst (v := 3) hx hb dL_law_252 (by decide) ?_
  refine lv_iadd hx hb dL_law_253 ?_
  refine lv_topi (fun x52 ex52 => ?_)
  have tx52 : x52.toInt = x0.toInt + 3 := (jadd ex52 rfl jz_3 (by omega) (by omega)).trans (by omega)
  refine va_sld hx hb hX hbl hbA hS (jin tx52 (by omega) (by omega)) dL_law_254 ?_
  have g53 := jrg (rfl : (xs x52.toNatClampNeg).toInt = (xs x52.toNatClampNeg).toInt)
  refine jcallV (As := [.int (xs x48.toNatClampNeg), .int (xs x50.toNatClampNeg), .int (xs x52.toNatClampNeg)]) (rest := []) ⟨hx, hb, hml, hown, hts⟩ hK hP hA hS hZ (c_X11_edge l D cI cL ad zz hJ σ τ (xs x48.toNatClampNeg) ((xs x48.toNatClampNeg).toInt) rfl (xs x50.toNatClampNeg) ((xs x50.toNatClampNeg).toInt) rfl (xs x52.toNatClampNeg) ((xs x52.toNatClampNeg).toInt) rfl hI2) cw_RL_18 (jc_0 cI cL ad σ τ) rfl ⟨Nat.le_of_ble_eq_true rfl, Nat.le_of_ble_eq_true rfl⟩ rfl rfl rfl hl.1 rfl (Nat.le_of_ble_eq_true rfl) dL_law_255 ⟨Nat.le_of_ble_eq_true rfl, Nat.le_of_ble_eq_true rfl⟩ (fun r55 σ54 τ54 H locs h54 hP hS => ?_)
  obtain ⟨rfl, f56, f57, I58, h54⟩ := h54
  obtain ⟨i60, i61, i62, i63, i64, w65⟩ : (0 ≤ (σ54 2 0).toInt ∧ (σ54 2 0).toInt ≤ 4) ∧ (0 ≤ (σ54 2 1).toInt ∧ (σ54 2 1).toInt ≤ 3) ∧ (0 ≤ (σ54 2 2).toInt) ∧ (0 ≤ (σ54 2 3).toInt) ∧ ((σ54 2 2).toInt + (σ54 2 3).toInt ≤ 40) ∧ (∀ k : Nat, k < 40 → 0 ≤ (σ54 6 k).toInt ∧ (σ54 6 k).toInt ≤ 67) := id I58
  have z66 : (σ54 2 0).toInt = (σ 2 0).toInt := (congrArg Int32.toInt (show σ54 2 0 = (σ 2 0) from (f57 0 (by decide))))
  have z67 : (σ54 2 1).toInt = (σ 2 1).toInt := (congrArg Int32.toInt (show σ54 2 1 = (σ 2 1) from (f57 1 (by decide))))
  rcases h54 with h68 | h69
  · obtain ⟨q74, k70, k71, k72, k73⟩ := h68
    have q74 := q74.symm
    subst q74
    refine lv_pop hx hb dL_law_258 rfl ?_
    refine lv_aload_n hx hb dL_law_259 rfl (lv_at hl 1 rfl) ?_
    refine lv_aload_n hx hb dL_law_260 rfl (lv_at hl 3 rfl) ?_
    refine lv_iload_n hx hb dL_law_261 rfl (lv_at hl 0 rfl) ?_
    refine lv_iconst (v := 1) hx hb dL_law_262 (by decide) ?_
    refine lv_iadd hx hb dL_law_263 ?_
    refine jtopr ex48.symm ?_
    refine va_sld hx hb hX hbl hbA hS (jin tx48 (by omega) (by omega)) dL_law_264 ?_
    refine lv_aload_n hx hb dL_law_265 rfl (lv_at hl 3 rfl) ?_
    refine lv_iload_n hx hb dL_law_266 rfl (lv_at hl 0 rfl) ?_
    refine lv_iconst (v := 2) hx hb dL_law_267 (by decide) ?_
    refine lv_iadd hx hb dL_law_268 ?_
    refine jtopr ex50.symm ?_
    refine va_sld hx hb hX hbl hbA hS (jin tx50 (by omega) (by omega)) dL_law_269 ?_
    refine lv_aload_n hx hb dL_law_270 rfl (lv_at hl 3 rfl) ?_
    refine lv_iload_n hx hb dL_law_271 rfl (lv_at hl 0 rfl) ?_
    refine lv_iconst (v := 3) hx hb dL_law_272 (by decide) ?_
    refine lv_iadd hx hb dL_law_273 ?_
    refine jtopr ex52.symm ?_
    refine va_sld hx hb hX hbl hbA hS (jin tx52 (by omega) (by omega)) dL_law_274 ?_
    have I75 : jI101 σ54 := jI101_fr (congrFun (f56 55 (by decide)) 4) (congrFun (f56 55 (by decide)) 5) (f56 56 (by decide)) (f56 57 (by decide)) (f56 58 (by decide)) (f56 59 (by decide)) hI101
    have I76 : jI102 σ54 := jI102_fr (congrFun (f56 55 (by decide)) 6) (f56 60 (by decide)) (f56 61 (by decide)) hI102
    have z77 : (σ54 55 5).toInt = (σ 55 5).toInt := (congrArg Int32.toInt (show σ54 55 5 = (σ 55 5) from (congrFun (f56 55 (by decide)) 5)))
    have z78 : (σ54 55 4).toInt = (σ 55 4).toInt := (congrArg Int32.toInt (show σ54 55 4 = (σ 55 4) from (congrFun (f56 55 (by decide)) 4)))
    refine jcallV (As := [.int (xs x48.toNatClampNeg), .int (xs x50.toNatClampNeg), .int (xs x52.toNatClampNeg)]) (rest := []) ⟨hx, hb, hml, hown, hts⟩ hK hP hA hS hZ (c_X12_edge l D cI cL ad zz hJ σ54 τ (xs x48.toNatClampNeg) ((xs x48.toNatClampNeg).toInt) rfl (xs x50.toNatClampNeg) ((xs x50.toNatClampNeg).toInt) rfl (xs x52.toNatClampNeg) ((xs x52.toNatClampNeg).toInt) rfl I75 I76) cw_RL_21 (jc_55 cI cL ad σ54 τ) rfl ⟨Nat.le_of_ble_eq_true rfl, Nat.le_of_ble_eq_true rfl⟩ rfl rfl rfl hl.1 rfl (Nat.le_of_ble_eq_true rfl) dL_law_275 ⟨Nat.le_of_ble_eq_true rfl, Nat.le_of_ble_eq_true rfl⟩ (fun r80 σ79 τ79 H locs h79 hP hS => ?_)
    obtain ⟨rfl, f81, f82, I83, h79⟩ := h79
    obtain ⟨i85, i86, i87, w88, w89, w90, w91⟩ : (0 ≤ (σ79 55 5).toInt) ∧ ((σ79 55 5).toInt ≤ (σ79 55 4).toInt) ∧ ((σ79 55 4).toInt ≤ 40) ∧ (∀ k : Nat, k < 68 → (-200) ≤ (σ79 56 k).toInt ∧ (σ79 56 k).toInt ≤ 500) ∧ (∀ k : Nat, k < 40 → 0 ≤ (σ79 57 k).toInt ∧ (σ79 57 k).toInt ≤ 67) ∧ (∀ k : Nat, k < 40 → (-200) ≤ (σ79 58 k).toInt ∧ (σ79 58 k).toInt ≤ 500) ∧ (∀ k : Nat, k < 40 → (-200) ≤ (σ79 59 k).toInt ∧ (σ79 59 k).toInt ≤ 500) := id I83
    rcases h79 with h92 | h93
    · obtain ⟨q98, k94, k95, k96, k97⟩ := h92
      have q98 := q98.symm
      subst q98
      have z99 : (σ54 55 6).toInt = (σ 55 6).toInt := (congrArg Int32.toInt (show σ54 55 6 = (σ 55 6) from (congrFun (f56 55 (by decide)) 6)))
      rw [show (σ54 55 6).toInt = (σ 2 0).toInt from by omega] at k96
      refine lv_pop hx hb dL_law_278 rfl ?_
      refine lv_goto (tgt := 1357) hx hb dL_law_279 (by decide) ?_
      obtain ⟨x100, ex100⟩ : ∃ y : Int32, y = x0 + 6 := ⟨_, rfl⟩
      have tx100 : x100.toInt = x0.toInt + 6 := (jadd ex100 rfl jz_6 (by omega) (by omega)).trans (by omega)
      refine lv_iinc (v := x100) (lv' := [(3, .int x100), (2, .ref (ad 55)), (1, .ref (ad 0)), (0, .ref b)]) hx hb dL_law_1357 hl (k := 0) rfl (by rw [ex100]; rfl) (by decide) rfl (fun ls hl => ?_)
      refine lv_goto (tgt := 18) hx hb dL_law_1360 (by decide) ?_
      have I101 : jI2 σ79 := jI2_fr (congrFun (f81 2 (by decide)) 0) (congrFun (f81 2 (by decide)) 1) (congrFun (f81 2 (by decide)) 2) (congrFun (f81 2 (by decide)) 3) (f81 6 (by decide)) I58
      have I102 : jI9 σ79 := jI9_fr ((congrFun (f81 9 (by decide)) 0).trans (congrFun (f56 9 (by decide)) 0)) ((f81 10 (by decide)).trans (f56 10 (by decide))) ((f81 11 (by decide)).trans (f56 11 (by decide))) hI9
      have I103 : jI12 σ79 := jI12_fr ((congrFun (f81 12 (by decide)) 0).trans (congrFun (f56 12 (by decide)) 0)) ((f81 13 (by decide)).trans (f56 13 (by decide))) hI12
      have I104 : jI16 σ79 := jI16_fr ((congrFun (f81 16 (by decide)) 0).trans (congrFun (f56 16 (by decide)) 0)) ((congrFun (f81 16 (by decide)) 1).trans (congrFun (f56 16 (by decide)) 1)) ((congrFun (f81 16 (by decide)) 2).trans (congrFun (f56 16 (by decide)) 2)) ((f81 17 (by decide)).trans (f56 17 (by decide))) hI16
      have I105 : jI18 σ79 := jI18_fr ((congrFun (f81 18 (by decide)) 0).trans (congrFun (f56 18 (by decide)) 0)) ((f81 19 (by decide)).trans (f56 19 (by decide))) hI18
      have I106 : jI22 σ79 := jI22_fr ((congrFun (f81 22 (by decide)) 0).trans (congrFun (f56 22 (by decide)) 0)) ((f81 23 (by decide)).trans (f56 23 (by decide))) hI22
      have I107 : jI31 σ79 := jI31_fr ((congrFun (f81 31 (by decide)) 8).trans (congrFun (f56 31 (by decide)) 8)) ((congrFun (f81 31 (by decide)) 10).trans (congrFun (f56 31 (by decide)) 10)) ((congrFun (f81 31 (by decide)) 11).trans (congrFun (f56 31 (by decide)) 11)) ((f81 33 (by decide)).trans (f56 33 (by decide))) ((f81 35 (by decide)).trans (f56 35 (by decide))) ((f81 36 (by decide)).trans (f56 36 (by decide))) hI31
      have I108 : jI38 σ79 := jI38_fr ((congrFun (f81 38 (by decide)) 0).trans (congrFun (f56 38 (by decide)) 0)) ((congrFun (f81 38 (by decide)) 1).trans (congrFun (f56 38 (by decide)) 1)) ((f81 39 (by decide)).trans (f56 39 (by decide))) hI38
      have I109 : jI43 σ79 := jI43_fr ((congrFun (f81 43 (by decide)) 8).trans (congrFun (f56 43 (by decide)) 8)) hI43
      have I110 : jI47 σ79 := jI47_fr ((congrFun (f81 47 (by decide)) 0).trans (congrFun (f56 47 (by decide)) 0)) ((f81 48 (by decide)).trans (f56 48 (by decide))) ((f81 49 (by decide)).trans (f56 49 (by decide))) hI47
      have I111 : jI50 σ79 := jI50_fr ((f81 52 (by decide)).trans (f56 52 (by decide))) hI50
      have I112 : jI0 σ79 := jI0_fr ((f81 1 (by decide)).trans (f56 1 (by decide))) hI0
      have I113 : jI26 σ79 := jI26_fr ((congrFun (f81 26 (by decide)) 6).trans (congrFun (f56 26 (by decide)) 6)) hI26
      have I114 : jI102 σ79 := jI102_fr (f82 6 (by decide)) (f81 60 (by decide)) (f81 61 (by decide)) I76
      have I115 : jI103 σ79 := jI103_fr ((f82 9 (by decide)).trans (congrFun (f56 55 (by decide)) 9)) hI103
      have I116 : jI104 σ79 := jI104_fr ((f82 10 (by decide)).trans (congrFun (f56 55 (by decide)) 10)) ((f82 12 (by decide)).trans (congrFun (f56 55 (by decide)) 12)) ((f82 13 (by decide)).trans (congrFun (f56 55 (by decide)) 13)) ((f81 62 (by decide)).trans (f56 62 (by decide))) ((f81 67 (by decide)).trans (f56 67 (by decide))) hI104
      have I117 : jI105 σ79 := jI105_fr ((f82 15 (by decide)).trans (congrFun (f56 55 (by decide)) 15)) ((f81 65 (by decide)).trans (f56 65 (by decide))) hI105
      have I118 : jI106 σ79 := jI106_fr ((f82 32 (by decide)).trans (congrFun (f56 55 (by decide)) 32)) ((f81 70 (by decide)).trans (f56 70 (by decide))) ((f81 71 (by decide)).trans (f56 71 (by decide))) ((f81 72 (by decide)).trans (f56 72 (by decide))) hI106
      have I119 : jI107 σ79 := jI107_fr ((f82 12 (by decide)).trans (congrFun (f56 55 (by decide)) 12)) ((f82 47 (by decide)).trans (congrFun (f56 55 (by decide)) 47)) ((f81 80 (by decide)).trans (f56 80 (by decide))) hI107
      have I120 : jI109 σ79 := jI109_fr ((f82 50 (by decide)).trans (congrFun (f56 55 (by decide)) 50)) hI109
      have I121 : jI110 σ79 := jI110_fr ((f81 86 (by decide)).trans (f56 86 (by decide))) ((f81 87 (by decide)).trans (f56 87 (by decide))) hI110
      have I122 : jI111 σ79 := jI111_fr ((f81 79 (by decide)).trans (f56 79 (by decide))) hI111
      have I123 : jI119 σ79 := jI119_fr ((f81 68 (by decide)).trans (f56 68 (by decide))) hI119
      have p124 : jKept σ79 := jKept.fr ((f81 75 (by decide)).trans (f56 75 (by decide))) ((f81 76 (by decide)).trans (f56 76 (by decide))) ((f81 77 (by decide)).trans (f56 77 (by decide))) hs_jKept
      have p125 : jBook σ79 := jBook.fr ((f82 47 (by decide)).trans (congrFun (f56 55 (by decide)) 47)) ((f82 10 (by decide)).trans (congrFun (f56 55 (by decide)) 10)) ((f81 81 (by decide)).trans (f56 81 (by decide))) hs_jBook
      have p126 : jNd12 σ79 := jNd12.fr ((congrFun (f81 12 (by decide)) 0).trans (congrFun (f56 12 (by decide)) 0)) ((congrFun (f81 12 (by decide)) 1).trans (congrFun (f56 12 (by decide)) 1)) ((f81 13 (by decide)).trans (f56 13 (by decide))) hs_jNd12
      have p127 : jN67 σ79 := jN67.fr ((f81 24 (by decide)).trans (f56 24 (by decide))) hs_jN67
      have p128 : jBl σ79 := jBl.fr ((congrFun (f81 22 (by decide)) 0).trans (congrFun (f56 22 (by decide)) 0)) ((congrFun (f81 22 (by decide)) 1).trans (congrFun (f56 22 (by decide)) 1)) ((f81 23 (by decide)).trans (f56 23 (by decide))) ((congrFun (f81 26 (by decide)) 6).trans (congrFun (f56 26 (by decide)) 6)) ((congrFun (f81 26 (by decide)) 7).trans (congrFun (f56 26 (by decide)) 7)) ((f81 29 (by decide)).trans (f56 29 (by decide))) ((f81 30 (by decide)).trans (f56 30 (by decide))) hs_jBl
      have p129 : jKb σ79 := jKb.fr ((congrFun (f81 31 (by decide)) 8).trans (congrFun (f56 31 (by decide)) 8)) ((congrFun (f81 31 (by decide)) 11).trans (congrFun (f56 31 (by decide)) 11)) ((f81 32 (by decide)).trans (f56 32 (by decide))) hs_jKb
      have p130 : jTR σ79 := jTR.fr ((f81 64 (by decide)).trans (f56 64 (by decide))) ((f81 65 (by decide)).trans (f56 65 (by decide))) hs_jTR
      have p131 : jKh σ79 := jKh.fr ((congrFun (f81 31 (by decide)) 8).trans (congrFun (f56 31 (by decide)) 8)) ((f81 32 (by decide)).trans (f56 32 (by decide))) ((f81 36 (by decide)).trans (f56 36 (by decide))) ((f81 37 (by decide)).trans (f56 37 (by decide))) hs_jKh
      have p132 : jKg σ79 := jKg.fr ((congrFun (f81 31 (by decide)) 8).trans (congrFun (f56 31 (by decide)) 8)) ((congrFun (f81 31 (by decide)) 9).trans (congrFun (f56 31 (by decide)) 9)) ((congrFun (f81 31 (by decide)) 11).trans (congrFun (f56 31 (by decide)) 11)) ((congrFun (f81 31 (by decide)) 12).trans (congrFun (f56 31 (by decide)) 12)) ((f81 32 (by decide)).trans (f56 32 (by decide))) ((f81 33 (by decide)).trans (f56 33 (by decide))) hs_jKg
      have z133 : (σ79 2 0).toInt = (σ 2 0).toInt := (congrArg Int32.toInt (show σ79 2 0 = (σ 2 0) from ((congrFun (f81 2 (by decide)) 0).trans (f57 0 (by decide)))))
      have z134 : (σ79 55 6).toInt = (σ 55 6).toInt := (congrArg Int32.toInt (show σ79 55 6 = (σ 55 6) from ((f82 6 (by decide)).trans (congrFun (f56 55 (by decide)) 6))))
      have z135 : (σ79 2 2).toInt = (σ54 2 2).toInt := (congrArg Int32.toInt (show σ79 2 2 = (σ54 2 2) from (congrFun (f81 2 (by decide)) 2)))
      have z136 : (σ79 2 3).toInt = (σ54 2 3).toInt := (congrArg Int32.toInt (show σ79 2 3 = (σ54 2 3) from (congrFun (f81 2 (by decide)) 3)))
      have z137 : (σ79 9 0).toInt = (σ 9 0).toInt := (congrArg Int32.toInt (show σ79 9 0 = (σ 9 0) from ((congrFun (f81 9 (by decide)) 0).trans (congrFun (f56 9 (by decide)) 0))))
      have z138 : (σ79 55 15).toInt = (σ 55 15).toInt := (congrArg Int32.toInt (show σ79 55 15 = (σ 55 15) from ((f82 15 (by decide)).trans (congrFun (f56 55 (by decide)) 15))))
      have z139 : (σ79 16 0).toInt = (σ 16 0).toInt := (congrArg Int32.toInt (show σ79 16 0 = (σ 16 0) from ((congrFun (f81 16 (by decide)) 0).trans (congrFun (f56 16 (by decide)) 0))))
      have z140 : (σ79 55 10).toInt = (σ 55 10).toInt := (congrArg Int32.toInt (show σ79 55 10 = (σ 55 10) from ((f82 10 (by decide)).trans (congrFun (f56 55 (by decide)) 10))))
      have z141 : (σ79 16 1).toInt = (σ 16 1).toInt := (congrArg Int32.toInt (show σ79 16 1 = (σ 16 1) from ((congrFun (f81 16 (by decide)) 1).trans (congrFun (f56 16 (by decide)) 1))))
      have z142 : (σ79 55 12).toInt = (σ 55 12).toInt := (congrArg Int32.toInt (show σ79 55 12 = (σ 55 12) from ((f82 12 (by decide)).trans (congrFun (f56 55 (by decide)) 12))))
      have z143 : (σ79 16 2).toInt = (σ 16 2).toInt := (congrArg Int32.toInt (show σ79 16 2 = (σ 16 2) from ((congrFun (f81 16 (by decide)) 2).trans (congrFun (f56 16 (by decide)) 2))))
      have z144 : (σ79 55 13).toInt = (σ 55 13).toInt := (congrArg Int32.toInt (show σ79 55 13 = (σ 55 13) from ((f82 13 (by decide)).trans (congrFun (f56 55 (by decide)) 13))))
      have z145 : (σ79 38 0).toInt = (σ 38 0).toInt := (congrArg Int32.toInt (show σ79 38 0 = (σ 38 0) from ((congrFun (f81 38 (by decide)) 0).trans (congrFun (f56 38 (by decide)) 0))))
      have z146 : (σ79 55 32).toInt = (σ 55 32).toInt := (congrArg Int32.toInt (show σ79 55 32 = (σ 55 32) from ((f82 32 (by decide)).trans (congrFun (f56 55 (by decide)) 32))))
      have z147 : (σ79 38 1).toInt = (σ 38 1).toInt := (congrArg Int32.toInt (show σ79 38 1 = (σ 38 1) from ((congrFun (f81 38 (by decide)) 1).trans (congrFun (f56 38 (by decide)) 1))))
      have z148 : (σ79 55 55).toInt = (σ 55 55).toInt := (congrArg Int32.toInt (show σ79 55 55 = (σ 55 55) from ((f82 55 (by decide)).trans (congrFun (f56 55 (by decide)) 55))))
      have z149 : (σ79 47 0).toInt = (σ 47 0).toInt := (congrArg Int32.toInt (show σ79 47 0 = (σ 47 0) from ((congrFun (f81 47 (by decide)) 0).trans (congrFun (f56 47 (by decide)) 0))))
      have z150 : (σ79 55 47).toInt = (σ 55 47).toInt := (congrArg Int32.toInt (show σ79 55 47 = (σ 55 47) from ((f82 47 (by decide)).trans (congrFun (f56 55 (by decide)) 47))))
      have z151 : (σ79 55 30).toInt = (σ 55 30).toInt := (congrArg Int32.toInt (show σ79 55 30 = (σ 55 30) from ((f82 30 (by decide)).trans (congrFun (f56 55 (by decide)) 30))))
      have z152 : (σ79 55 31).toInt = (σ 55 31).toInt := (congrArg Int32.toInt (show σ79 55 31 = (σ 55 31) from ((f82 31 (by decide)).trans (congrFun (f56 55 (by decide)) 31))))
      have z153 : (σ79 2 1).toInt = (σ 2 1).toInt := (congrArg Int32.toInt (show σ79 2 1 = (σ 2 1) from ((congrFun (f81 2 (by decide)) 1).trans (f57 1 (by decide)))))
      have z154 : (σ79 55 9).toInt = (σ 55 9).toInt := (congrArg Int32.toInt (show σ79 55 9 = (σ 55 9) from ((f82 9 (by decide)).trans (congrFun (f56 55 (by decide)) 9))))
      have z155 : (σ79 26 6).toInt = (σ 26 6).toInt := (congrArg Int32.toInt (show σ79 26 6 = (σ 26 6) from ((congrFun (f81 26 (by decide)) 6).trans (congrFun (f56 26 (by decide)) 6))))
      have z157 : (σ79 18 0).toInt = (σ 18 0).toInt := (congrArg Int32.toInt (show σ79 18 0 = (σ 18 0) from ((congrFun (f81 18 (by decide)) 0).trans (congrFun (f56 18 (by decide)) 0))))
      have z158 : (σ79 22 0).toInt = (σ 22 0).toInt := (congrArg Int32.toInt (show σ79 22 0 = (σ 22 0) from ((congrFun (f81 22 (by decide)) 0).trans (congrFun (f56 22 (by decide)) 0))))
      exact ih x100 σ79 τ _ _ ls (by have h9 := tx100; omega) ⟨I101, I102, I103, I104, I105, I106, I107, I108, I109, I110, I111, I112, I113, I83, I114, I115, I116, I117, I118, I119, I120, I121, I122, I123, p124, p125, p126, p127, p128, p129, p130, p131, p132, (by omega), (by omega), (by omega), (by omega), (by omega), (by omega), (by omega), (by omega), (by omega), (by omega), (by omega), (by omega), (by omega), (by have h9 := tx100; omega), (show jNumP (σ79 3) (σ79 56) (σ79 6) (σ79 57) (σ79 7) (σ79 58) (σ79 8) (σ79 59) (σ79 55 6).toInt (σ79 55 4).toInt by rw [show σ79 3 = σ 3 from ((f81 3 (by decide)).trans k73.1), show σ79 56 = σ 56 from (k97.1.trans (f56 56 (by decide))), show σ79 6 = σ 6 from ((f81 6 (by decide)).trans k73.2.1), show σ79 57 = σ 57 from (k97.2.1.trans (f56 57 (by decide))), show σ79 7 = σ 7 from ((f81 7 (by decide)).trans k73.2.2.1), show σ79 58 = σ 58 from (k97.2.2.1.trans (f56 58 (by decide))), show σ79 8 = σ 8 from ((f81 8 (by decide)).trans k73.2.2.2), show σ79 59 = σ 59 from (k97.2.2.2.trans (f56 59 (by decide))), show (σ79 55 6).toInt = (σ 55 6).toInt from by omega, show (σ79 55 4).toInt = (σ 55 4).toInt from by omega]; exact hr0), (show jOvP (σ79 56) (σ79 57) (σ79 58) (σ79 59) (σ79 55 4).toInt by rw [show σ79 56 = σ 56 from (k97.1.trans (f56 56 (by decide))), show σ79 57 = σ 57 from (k97.2.1.trans (f56 57 (by decide))), show σ79 58 = σ 58 from (k97.2.2.1.trans (f56 58 (by decide))), show σ79 59 = σ 59 from (k97.2.2.2.trans (f56 59 (by decide))), show (σ79 55 4).toInt = (σ 55 4).toInt from by omega]; exact hr1), (show jTp (σ79 10) (σ79 63) (σ79 55 15).toInt by rw [show σ79 10 = σ 10 from ((f81 10 (by decide)).trans (f56 10 (by decide))), show σ79 63 = σ 63 from ((f81 63 (by decide)).trans (f56 63 (by decide)))]; exact hr2.le (by omega)), (show jSo (σ79 17) (σ79 62) (σ79 16 0).toInt by rw [show σ79 17 = σ 17 from ((f81 17 (by decide)).trans (f56 17 (by decide))), show σ79 62 = σ 62 from ((f81 62 (by decide)).trans (f56 62 (by decide))), show (σ79 16 0).toInt = (σ 16 0).toInt from by omega]; exact hr3), (show jShP (σ79 51) (σ79 52) (σ79 53) (σ79 86) (σ79 87) (σ79 55 32).toInt by rw [show σ79 51 = σ 51 from ((f81 51 (by decide)).trans (f56 51 (by decide))), show σ79 52 = σ 52 from ((f81 52 (by decide)).trans (f56 52 (by decide))), show σ79 53 = σ 53 from ((f81 53 (by decide)).trans (f56 53 (by decide))), show σ79 86 = σ 86 from ((f81 86 (by decide)).trans (f56 86 (by decide))), show σ79 87 = σ 87 from ((f81 87 (by decide)).trans (f56 87 (by decide)))]; exact (hr4.up (by omega) (by omega))), (show jEl (σ79 51) (σ79 52) (τ 54) (τ 88) by rw [show σ79 51 = σ 51 from ((f81 51 (by decide)).trans (f56 51 (by decide))), show σ79 52 = σ 52 from ((f81 52 (by decide)).trans (f56 52 (by decide)))]; exact hr5), (show jByP (σ79 51) (σ79 52) (τ 54) by rw [show σ79 51 = σ 51 from ((f81 51 (by decide)).trans (f56 51 (by decide))), show σ79 52 = σ 52 from ((f81 52 (by decide)).trans (f56 52 (by decide)))]; exact hr6), (show jBk (σ79 48) (σ79 80) (σ79 49) (σ79 81) (σ79 55 47).toInt by rw [show σ79 48 = σ 48 from ((f81 48 (by decide)).trans (f56 48 (by decide))), show σ79 49 = σ 49 from ((f81 49 (by decide)).trans (f56 49 (by decide))), show σ79 80 = σ 80 from ((f81 80 (by decide)).trans (f56 80 (by decide))), show σ79 81 = σ 81 from ((f81 81 (by decide)).trans (f56 81 (by decide))), show (σ79 55 47).toInt = (σ 55 47).toInt from by omega]; exact hr7), (show jKd (σ79 39) (σ79 70) (σ79 55 32).toInt by rw [show σ79 39 = σ 39 from ((f81 39 (by decide)).trans (f56 39 (by decide))), show σ79 70 = σ 70 from ((f81 70 (by decide)).trans (f56 70 (by decide))), show (σ79 55 32).toInt = (σ 55 32).toInt from by omega]; exact hr8), (show jTt (σ79 42) (σ79 85) (σ79 55 55).toInt by rw [show σ79 42 = σ 42 from ((f81 42 (by decide)).trans (f56 42 (by decide))), show σ79 85 = σ 85 from ((f81 85 (by decide)).trans (f56 85 (by decide))), show (σ79 55 55).toInt = (σ 55 55).toInt from by omega]; exact hr9), (fun k hk => by rw [show σ79 4 = σ 4 from ((f81 4 (by decide)).trans (f56 4 (by decide))), show σ79 5 = σ 5 from ((f81 5 (by decide)).trans (f56 5 (by decide))), show σ79 60 = σ 60 from ((f81 60 (by decide)).trans (f56 60 (by decide))), show σ79 61 = σ 61 from ((f81 61 (by decide)).trans (f56 61 (by decide)))]; exact hr10 k (by omega)), (fun nm => by rw [show σ79 19 = σ 19 from ((f81 19 (by decide)).trans (f56 19 (by decide))), show σ79 64 = σ 64 from ((f81 64 (by decide)).trans (f56 64 (by decide))), show σ79 65 = σ 65 from ((f81 65 (by decide)).trans (f56 65 (by decide))), show (σ79 18 0).toInt = (σ 18 0).toInt from by omega]; exact hr11 nm), (fun nm => by rw [show σ79 23 = σ 23 from ((f81 23 (by decide)).trans (f56 23 (by decide))), show σ79 64 = σ 64 from ((f81 64 (by decide)).trans (f56 64 (by decide))), show σ79 65 = σ 65 from ((f81 65 (by decide)).trans (f56 65 (by decide))), show (σ79 22 0).toInt = (σ 22 0).toInt from by omega]; exact hr12 nm)⟩ hP hS (lv_sub hl [0, 1, 2, 3] rfl)
    · obtain ⟨q160, k159⟩ := h93
      have z161 : (σ54 55 6).toInt = (σ 55 6).toInt := (congrArg Int32.toInt (show σ54 55 6 = (σ 55 6) from (congrFun (f56 55 (by decide)) 6)))
      rw [show (σ54 55 6).toInt = (σ 2 0).toInt from by omega] at k159
      exact absurd k159.1 k72
  · obtain ⟨q163, k162⟩ := h69
    refine lv_pop hx hb dL_law_258 rfl ?_
    refine lv_aload_n hx hb dL_law_259 rfl (lv_at hl 1 rfl) ?_
    refine lv_aload_n hx hb dL_law_260 rfl (lv_at hl 3 rfl) ?_
    refine lv_iload_n hx hb dL_law_261 rfl (lv_at hl 0 rfl) ?_
    refine lv_iconst (v := 1) hx hb dL_law_262 (by decide) ?_
    refine lv_iadd hx hb dL_law_263 ?_
    refine jtopr ex48.symm ?_
    refine va_sld hx hb hX hbl hbA hS (jin tx48 (by omega) (by omega)) dL_law_264 ?_
    refine lv_aload_n hx hb dL_law_265 rfl (lv_at hl 3 rfl) ?_
    refine lv_iload_n hx hb dL_law_266 rfl (lv_at hl 0 rfl) ?_
    refine lv_iconst (v := 2) hx hb dL_law_267 (by decide) ?_
    refine lv_iadd hx hb dL_law_268 ?_
    refine jtopr ex50.symm ?_
    refine va_sld hx hb hX hbl hbA hS (jin tx50 (by omega) (by omega)) dL_law_269 ?_
    refine lv_aload_n hx hb dL_law_270 rfl (lv_at hl 3 rfl) ?_
    refine lv_iload_n hx hb dL_law_271 rfl (lv_at hl 0 rfl) ?_
    refine lv_iconst (v := 3) hx hb dL_law_272 (by decide) ?_
    refine lv_iadd hx hb dL_law_273 ?_
    refine jtopr ex52.symm ?_
    refine va_sld hx hb hX hbl hbA hS (jin tx52 (by omega) (by omega)) dL_law_274 ?_
    have I164 : jI101 σ54 := jI101_fr (congrFun (f56 55 (by decide)) 4) (congrFun (f56 55 (by decide)) 5) (f56 56 (by decide)) (f56 57 (by decide)) (f56 58 (by decide)) (f56 59 (by decide)) hI101
    have I165 : jI102 σ54 := jI102_fr (congrFun (f56 55 (by decide)) 6) (f56 60 (by decide)) (f56 61 (by decide)) hI102
    have z166 : (σ54 55 5).toInt = (σ 55 5).toInt := (congrArg Int32.toInt (show σ54 55 5 = (σ 55 5) from (congrFun (f56 55 (by decide)) 5)))
    have z167 : (σ54 55 4).toInt = (σ 55 4).toInt := (congrArg Int32.toInt (show σ54 55 4 = (σ 55 4) from (congrFun (f56 55 (by decide)) 4)))
    refine jcallV (As := [.int (xs x48.toNatClampNeg), .int (xs x50.toNatClampNeg), .int (xs x52.toNatClampNeg)]) (rest := []) ⟨hx, hb, hml, hown, hts⟩ hK hP hA hS hZ (c_X12_edge l D cI cL ad zz hJ σ54 τ (xs x48.toNatClampNeg) ((xs x48.toNatClampNeg).toInt) rfl (xs x50.toNatClampNeg) ((xs x50.toNatClampNeg).toInt) rfl (xs x52.toNatClampNeg) ((xs x52.toNatClampNeg).toInt) rfl I164 I165) cw_RL_21 (jc_55 cI cL ad σ54 τ) rfl ⟨Nat.le_of_ble_eq_true rfl, Nat.le_of_ble_eq_true rfl⟩ rfl rfl rfl hl.1 rfl (Nat.le_of_ble_eq_true rfl) dL_law_275 ⟨Nat.le_of_ble_eq_true rfl, Nat.le_of_ble_eq_true rfl⟩ (fun r169 σ168 τ168 H locs h168 hP hS => ?_)
    obtain ⟨rfl, f170, f171, I172, h168⟩ := h168
    obtain ⟨i174, i175, i176, w177, w178, w179, w180⟩ : (0 ≤ (σ168 55 5).toInt) ∧ ((σ168 55 5).toInt ≤ (σ168 55 4).toInt) ∧ ((σ168 55 4).toInt ≤ 40) ∧ (∀ k : Nat, k < 68 → (-200) ≤ (σ168 56 k).toInt ∧ (σ168 56 k).toInt ≤ 500) ∧ (∀ k : Nat, k < 40 → 0 ≤ (σ168 57 k).toInt ∧ (σ168 57 k).toInt ≤ 67) ∧ (∀ k : Nat, k < 40 → (-200) ≤ (σ168 58 k).toInt ∧ (σ168 58 k).toInt ≤ 500) ∧ (∀ k : Nat, k < 40 → (-200) ≤ (σ168 59 k).toInt ∧ (σ168 59 k).toInt ≤ 500) := id I172
    rcases h168 with h181 | h182
    · obtain ⟨q187, k183, k184, k185, k186⟩ := h181
      have q187 := q187.symm
      subst q187
      have z188 : (σ54 55 6).toInt = (σ 55 6).toInt := (congrArg Int32.toInt (show σ54 55 6 = (σ 55 6) from (congrFun (f56 55 (by decide)) 6)))
      rw [show (σ54 55 6).toInt = (σ 2 0).toInt from by omega] at k185
      exact absurd k162.1 k185
    · obtain ⟨q190, k189⟩ := h182
      have z191 : (σ54 55 6).toInt = (σ 55 6).toInt := (congrArg Int32.toInt (show σ54 55 6 = (σ 55 6) from (congrFun (f56 55 (by decide)) 6)))
      rw [show (σ54 55 6).toInt = (σ 2 0).toInt from by omega] at k189
      obtain ⟨e192, q193, l194, c195⟩ := k162
      obtain ⟨-, q196, l197, c198⟩ := k189
      have p199 := jEdge_pl (by omega) e192 l194 l197
      rw [show σ54 56 = σ 56 from (f56 56 (by decide)), show σ54 57 = σ 57 from (f56 57 (by decide)), show σ54 58 = σ 58 from (f56 58 (by decide)), show σ54 59 = σ 59 from (f56 59 (by decide)), show (σ54 55 4).toInt = (σ 55 4).toInt from by omega] at c198
      have r203 := hr0.res p199.1 (by have h9 := p199.2.1; omega) c195 c198 p199.2.2
      have k202 := hr0.chg p199.1 (by have h9 := p199.2.1; omega) c195 c198 p199.2.2 (by omega) (by omega) (by omega)
      have k200 := k202.2.1
      have k201 := k202.2.2
      have o204 : 32 ≤ q196 → q196 ≤ 35 → 0 ≤ (xs x52.toNatClampNeg).toInt ∧ (xs x52.toNatClampNeg).toInt ≤ 8 := fun x y => by
        have e := e192
        have l := l197
        unfold jEok at e; unfold jEpl at l; omega
      refine lv_pop hx hb dL_law_278 rfl ?_
      refine lv_goto (tgt := 1357) hx hb dL_law_279 (by decide) ?_
      obtain ⟨x205, ex205⟩ : ∃ y : Int32, y = x0 + 6 := ⟨_, rfl⟩
      have tx205 : x205.toInt = x0.toInt + 6 := (jadd ex205 rfl jz_6 (by omega) (by omega)).trans (by omega)
      refine lv_iinc (v := x205) (lv' := [(3, .int x205), (2, .ref (ad 55)), (1, .ref (ad 0)), (0, .ref b)]) hx hb dL_law_1357 hl (k := 0) rfl (by rw [ex205]; rfl) (by decide) rfl (fun ls hl => ?_)
      refine lv_goto (tgt := 18) hx hb dL_law_1360 (by decide) ?_
      have I206 : jI2 σ168 := jI2_fr (congrFun (f170 2 (by decide)) 0) (congrFun (f170 2 (by decide)) 1) (congrFun (f170 2 (by decide)) 2) (congrFun (f170 2 (by decide)) 3) (f170 6 (by decide)) I58
      have I207 : jI9 σ168 := jI9_fr ((congrFun (f170 9 (by decide)) 0).trans (congrFun (f56 9 (by decide)) 0)) ((f170 10 (by decide)).trans (f56 10 (by decide))) ((f170 11 (by decide)).trans (f56 11 (by decide))) hI9
      have I208 : jI12 σ168 := jI12_fr ((congrFun (f170 12 (by decide)) 0).trans (congrFun (f56 12 (by decide)) 0)) ((f170 13 (by decide)).trans (f56 13 (by decide))) hI12
      have I209 : jI16 σ168 := jI16_fr ((congrFun (f170 16 (by decide)) 0).trans (congrFun (f56 16 (by decide)) 0)) ((congrFun (f170 16 (by decide)) 1).trans (congrFun (f56 16 (by decide)) 1)) ((congrFun (f170 16 (by decide)) 2).trans (congrFun (f56 16 (by decide)) 2)) ((f170 17 (by decide)).trans (f56 17 (by decide))) hI16
      have I210 : jI18 σ168 := jI18_fr ((congrFun (f170 18 (by decide)) 0).trans (congrFun (f56 18 (by decide)) 0)) ((f170 19 (by decide)).trans (f56 19 (by decide))) hI18
      have I211 : jI22 σ168 := jI22_fr ((congrFun (f170 22 (by decide)) 0).trans (congrFun (f56 22 (by decide)) 0)) ((f170 23 (by decide)).trans (f56 23 (by decide))) hI22
      have I212 : jI31 σ168 := jI31_fr ((congrFun (f170 31 (by decide)) 8).trans (congrFun (f56 31 (by decide)) 8)) ((congrFun (f170 31 (by decide)) 10).trans (congrFun (f56 31 (by decide)) 10)) ((congrFun (f170 31 (by decide)) 11).trans (congrFun (f56 31 (by decide)) 11)) ((f170 33 (by decide)).trans (f56 33 (by decide))) ((f170 35 (by decide)).trans (f56 35 (by decide))) ((f170 36 (by decide)).trans (f56 36 (by decide))) hI31
      have I213 : jI38 σ168 := jI38_fr ((congrFun (f170 38 (by decide)) 0).trans (congrFun (f56 38 (by decide)) 0)) ((congrFun (f170 38 (by decide)) 1).trans (congrFun (f56 38 (by decide)) 1)) ((f170 39 (by decide)).trans (f56 39 (by decide))) hI38
      have I214 : jI43 σ168 := jI43_fr ((congrFun (f170 43 (by decide)) 8).trans (congrFun (f56 43 (by decide)) 8)) hI43
      have I215 : jI47 σ168 := jI47_fr ((congrFun (f170 47 (by decide)) 0).trans (congrFun (f56 47 (by decide)) 0)) ((f170 48 (by decide)).trans (f56 48 (by decide))) ((f170 49 (by decide)).trans (f56 49 (by decide))) hI47
      have I216 : jI50 σ168 := jI50_fr ((f170 52 (by decide)).trans (f56 52 (by decide))) hI50
      have I217 : jI0 σ168 := jI0_fr ((f170 1 (by decide)).trans (f56 1 (by decide))) hI0
      have I218 : jI26 σ168 := jI26_fr ((congrFun (f170 26 (by decide)) 6).trans (congrFun (f56 26 (by decide)) 6)) hI26
      have I219 : jI102 σ168 := jI102_fr (f171 6 (by decide)) (f170 60 (by decide)) (f170 61 (by decide)) I165
      have I220 : jI103 σ168 := jI103_fr ((f171 9 (by decide)).trans (congrFun (f56 55 (by decide)) 9)) hI103
      have I221 : jI104 σ168 := jI104_fr ((f171 10 (by decide)).trans (congrFun (f56 55 (by decide)) 10)) ((f171 12 (by decide)).trans (congrFun (f56 55 (by decide)) 12)) ((f171 13 (by decide)).trans (congrFun (f56 55 (by decide)) 13)) ((f170 62 (by decide)).trans (f56 62 (by decide))) ((f170 67 (by decide)).trans (f56 67 (by decide))) hI104
      have I222 : jI105 σ168 := jI105_fr ((f171 15 (by decide)).trans (congrFun (f56 55 (by decide)) 15)) ((f170 65 (by decide)).trans (f56 65 (by decide))) hI105
      have I223 : jI106 σ168 := jI106_fr ((f171 32 (by decide)).trans (congrFun (f56 55 (by decide)) 32)) ((f170 70 (by decide)).trans (f56 70 (by decide))) ((f170 71 (by decide)).trans (f56 71 (by decide))) ((f170 72 (by decide)).trans (f56 72 (by decide))) hI106
      have I224 : jI107 σ168 := jI107_fr ((f171 12 (by decide)).trans (congrFun (f56 55 (by decide)) 12)) ((f171 47 (by decide)).trans (congrFun (f56 55 (by decide)) 47)) ((f170 80 (by decide)).trans (f56 80 (by decide))) hI107
      have I225 : jI109 σ168 := jI109_fr ((f171 50 (by decide)).trans (congrFun (f56 55 (by decide)) 50)) hI109
      have I226 : jI110 σ168 := jI110_fr ((f170 86 (by decide)).trans (f56 86 (by decide))) ((f170 87 (by decide)).trans (f56 87 (by decide))) hI110
      have I227 : jI111 σ168 := jI111_fr ((f170 79 (by decide)).trans (f56 79 (by decide))) hI111
      have I228 : jI119 σ168 := jI119_fr ((f170 68 (by decide)).trans (f56 68 (by decide))) hI119
      have p229 : jKept σ168 := jKept.fr ((f170 75 (by decide)).trans (f56 75 (by decide))) ((f170 76 (by decide)).trans (f56 76 (by decide))) ((f170 77 (by decide)).trans (f56 77 (by decide))) hs_jKept
      have p230 : jBook σ168 := jBook.fr ((f171 47 (by decide)).trans (congrFun (f56 55 (by decide)) 47)) ((f171 10 (by decide)).trans (congrFun (f56 55 (by decide)) 10)) ((f170 81 (by decide)).trans (f56 81 (by decide))) hs_jBook
      have p231 : jNd12 σ168 := jNd12.fr ((congrFun (f170 12 (by decide)) 0).trans (congrFun (f56 12 (by decide)) 0)) ((congrFun (f170 12 (by decide)) 1).trans (congrFun (f56 12 (by decide)) 1)) ((f170 13 (by decide)).trans (f56 13 (by decide))) hs_jNd12
      have p232 : jN67 σ168 := jN67.fr ((f170 24 (by decide)).trans (f56 24 (by decide))) hs_jN67
      have p233 : jBl σ168 := jBl.fr ((congrFun (f170 22 (by decide)) 0).trans (congrFun (f56 22 (by decide)) 0)) ((congrFun (f170 22 (by decide)) 1).trans (congrFun (f56 22 (by decide)) 1)) ((f170 23 (by decide)).trans (f56 23 (by decide))) ((congrFun (f170 26 (by decide)) 6).trans (congrFun (f56 26 (by decide)) 6)) ((congrFun (f170 26 (by decide)) 7).trans (congrFun (f56 26 (by decide)) 7)) ((f170 29 (by decide)).trans (f56 29 (by decide))) ((f170 30 (by decide)).trans (f56 30 (by decide))) hs_jBl
      have p234 : jKb σ168 := jKb.fr ((congrFun (f170 31 (by decide)) 8).trans (congrFun (f56 31 (by decide)) 8)) ((congrFun (f170 31 (by decide)) 11).trans (congrFun (f56 31 (by decide)) 11)) ((f170 32 (by decide)).trans (f56 32 (by decide))) hs_jKb
      have p235 : jTR σ168 := jTR.fr ((f170 64 (by decide)).trans (f56 64 (by decide))) ((f170 65 (by decide)).trans (f56 65 (by decide))) hs_jTR
      have p236 : jKh σ168 := jKh.fr ((congrFun (f170 31 (by decide)) 8).trans (congrFun (f56 31 (by decide)) 8)) ((f170 32 (by decide)).trans (f56 32 (by decide))) ((f170 36 (by decide)).trans (f56 36 (by decide))) ((f170 37 (by decide)).trans (f56 37 (by decide))) hs_jKh
      have p237 : jKg σ168 := jKg.fr ((congrFun (f170 31 (by decide)) 8).trans (congrFun (f56 31 (by decide)) 8)) ((congrFun (f170 31 (by decide)) 9).trans (congrFun (f56 31 (by decide)) 9)) ((congrFun (f170 31 (by decide)) 11).trans (congrFun (f56 31 (by decide)) 11)) ((congrFun (f170 31 (by decide)) 12).trans (congrFun (f56 31 (by decide)) 12)) ((f170 32 (by decide)).trans (f56 32 (by decide))) ((f170 33 (by decide)).trans (f56 33 (by decide))) hs_jKg
      have z238 : (σ168 2 0).toInt = (σ 2 0).toInt := (congrArg Int32.toInt (show σ168 2 0 = (σ 2 0) from ((congrFun (f170 2 (by decide)) 0).trans (f57 0 (by decide)))))
      have z239 : (σ168 55 6).toInt = (σ 55 6).toInt := (congrArg Int32.toInt (show σ168 55 6 = (σ 55 6) from ((f171 6 (by decide)).trans (congrFun (f56 55 (by decide)) 6))))
      have z240 : (σ168 2 2).toInt = (σ54 2 2).toInt := (congrArg Int32.toInt (show σ168 2 2 = (σ54 2 2) from (congrFun (f170 2 (by decide)) 2)))
      have z241 : (σ168 2 3).toInt = (σ54 2 3).toInt := (congrArg Int32.toInt (show σ168 2 3 = (σ54 2 3) from (congrFun (f170 2 (by decide)) 3)))
      have z242 : (σ168 9 0).toInt = (σ 9 0).toInt := (congrArg Int32.toInt (show σ168 9 0 = (σ 9 0) from ((congrFun (f170 9 (by decide)) 0).trans (congrFun (f56 9 (by decide)) 0))))
      have z243 : (σ168 55 15).toInt = (σ 55 15).toInt := (congrArg Int32.toInt (show σ168 55 15 = (σ 55 15) from ((f171 15 (by decide)).trans (congrFun (f56 55 (by decide)) 15))))
      have z244 : (σ168 16 0).toInt = (σ 16 0).toInt := (congrArg Int32.toInt (show σ168 16 0 = (σ 16 0) from ((congrFun (f170 16 (by decide)) 0).trans (congrFun (f56 16 (by decide)) 0))))
      have z245 : (σ168 55 10).toInt = (σ 55 10).toInt := (congrArg Int32.toInt (show σ168 55 10 = (σ 55 10) from ((f171 10 (by decide)).trans (congrFun (f56 55 (by decide)) 10))))
      have z246 : (σ168 16 1).toInt = (σ 16 1).toInt := (congrArg Int32.toInt (show σ168 16 1 = (σ 16 1) from ((congrFun (f170 16 (by decide)) 1).trans (congrFun (f56 16 (by decide)) 1))))
      have z247 : (σ168 55 12).toInt = (σ 55 12).toInt := (congrArg Int32.toInt (show σ168 55 12 = (σ 55 12) from ((f171 12 (by decide)).trans (congrFun (f56 55 (by decide)) 12))))
      have z248 : (σ168 16 2).toInt = (σ 16 2).toInt := (congrArg Int32.toInt (show σ168 16 2 = (σ 16 2) from ((congrFun (f170 16 (by decide)) 2).trans (congrFun (f56 16 (by decide)) 2))))
      have z249 : (σ168 55 13).toInt = (σ 55 13).toInt := (congrArg Int32.toInt (show σ168 55 13 = (σ 55 13) from ((f171 13 (by decide)).trans (congrFun (f56 55 (by decide)) 13))))
      have z250 : (σ168 38 0).toInt = (σ 38 0).toInt := (congrArg Int32.toInt (show σ168 38 0 = (σ 38 0) from ((congrFun (f170 38 (by decide)) 0).trans (congrFun (f56 38 (by decide)) 0))))
      have z251 : (σ168 55 32).toInt = (σ 55 32).toInt := (congrArg Int32.toInt (show σ168 55 32 = (σ 55 32) from ((f171 32 (by decide)).trans (congrFun (f56 55 (by decide)) 32))))
      have z252 : (σ168 38 1).toInt = (σ 38 1).toInt := (congrArg Int32.toInt (show σ168 38 1 = (σ 38 1) from ((congrFun (f170 38 (by decide)) 1).trans (congrFun (f56 38 (by decide)) 1))))
      have z253 : (σ168 55 55).toInt = (σ 55 55).toInt := (congrArg Int32.toInt (show σ168 55 55 = (σ 55 55) from ((f171 55 (by decide)).trans (congrFun (f56 55 (by decide)) 55))))
      have z254 : (σ168 47 0).toInt = (σ 47 0).toInt := (congrArg Int32.toInt (show σ168 47 0 = (σ 47 0) from ((congrFun (f170 47 (by decide)) 0).trans (congrFun (f56 47 (by decide)) 0))))
      have z255 : (σ168 55 47).toInt = (σ 55 47).toInt := (congrArg Int32.toInt (show σ168 55 47 = (σ 55 47) from ((f171 47 (by decide)).trans (congrFun (f56 55 (by decide)) 47))))
      have z256 : (σ168 55 30).toInt = (σ 55 30).toInt := (congrArg Int32.toInt (show σ168 55 30 = (σ 55 30) from ((f171 30 (by decide)).trans (congrFun (f56 55 (by decide)) 30))))
      have z257 : (σ168 55 31).toInt = (σ 55 31).toInt := (congrArg Int32.toInt (show σ168 55 31 = (σ 55 31) from ((f171 31 (by decide)).trans (congrFun (f56 55 (by decide)) 31))))
      have z258 : (σ168 2 1).toInt = (σ 2 1).toInt := (congrArg Int32.toInt (show σ168 2 1 = (σ 2 1) from ((congrFun (f170 2 (by decide)) 1).trans (f57 1 (by decide)))))
      have z259 : (σ168 55 9).toInt = (σ 55 9).toInt := (congrArg Int32.toInt (show σ168 55 9 = (σ 55 9) from ((f171 9 (by decide)).trans (congrFun (f56 55 (by decide)) 9))))
      have z260 : (σ168 26 6).toInt = (σ 26 6).toInt := (congrArg Int32.toInt (show σ168 26 6 = (σ 26 6) from ((congrFun (f170 26 (by decide)) 6).trans (congrFun (f56 26 (by decide)) 6))))
      have z262 : (σ168 18 0).toInt = (σ 18 0).toInt := (congrArg Int32.toInt (show σ168 18 0 = (σ 18 0) from ((congrFun (f170 18 (by decide)) 0).trans (congrFun (f56 18 (by decide)) 0))))
      have z263 : (σ168 22 0).toInt = (σ 22 0).toInt := (congrArg Int32.toInt (show σ168 22 0 = (σ 22 0) from ((congrFun (f170 22 (by decide)) 0).trans (congrFun (f56 22 (by decide)) 0))))
      exact ih x205 σ168 τ _ _ ls (by have h9 := tx205; omega) ⟨I206, I207, I208, I209, I210, I211, I212, I213, I214, I215, I216, I217, I218, I172, I219, I220, I221, I222, I223, I224, I225, I226, I227, I228, p229, p230, p231, p232, p233, p234, p235, p236, p237, (by omega), (by omega), (by omega), (by omega), (by omega), (by omega), (by omega), (by omega), (by omega), (by omega), (by omega), (by omega), (by omega), (by have h9 := tx205; omega), (show jNumP (σ168 3) (σ168 56) (σ168 6) (σ168 57) (σ168 7) (σ168 58) (σ168 8) (σ168 59) (σ168 55 6).toInt (σ168 55 4).toInt by rw [show σ168 3 = σ54 3 from (f170 3 (by decide)), show σ168 6 = σ54 6 from (f170 6 (by decide)), show σ168 7 = σ54 7 from (f170 7 (by decide)), show σ168 8 = σ54 8 from (f170 8 (by decide)), show (σ168 55 6).toInt = (σ 55 6).toInt from by omega]; exact k202.1), (hr1.chg c198 (by have h8 := p199.1; have h9 := p199.2.2; omega) (by omega) o204), (show jTp (σ168 10) (σ168 63) (σ168 55 15).toInt by rw [show σ168 10 = σ 10 from ((f170 10 (by decide)).trans (f56 10 (by decide))), show σ168 63 = σ 63 from ((f170 63 (by decide)).trans (f56 63 (by decide)))]; exact hr2.le (by omega)), (show jSo (σ168 17) (σ168 62) (σ168 16 0).toInt by rw [show σ168 17 = σ 17 from ((f170 17 (by decide)).trans (f56 17 (by decide))), show σ168 62 = σ 62 from ((f170 62 (by decide)).trans (f56 62 (by decide))), show (σ168 16 0).toInt = (σ 16 0).toInt from by omega]; exact hr3), (show jShP (σ168 51) (σ168 52) (σ168 53) (σ168 86) (σ168 87) (σ168 55 32).toInt by rw [show σ168 51 = σ 51 from ((f170 51 (by decide)).trans (f56 51 (by decide))), show σ168 52 = σ 52 from ((f170 52 (by decide)).trans (f56 52 (by decide))), show σ168 53 = σ 53 from ((f170 53 (by decide)).trans (f56 53 (by decide))), show σ168 86 = σ 86 from ((f170 86 (by decide)).trans (f56 86 (by decide))), show σ168 87 = σ 87 from ((f170 87 (by decide)).trans (f56 87 (by decide)))]; exact (hr4.up (by omega) (by omega))), (show jEl (σ168 51) (σ168 52) (τ 54) (τ 88) by rw [show σ168 51 = σ 51 from ((f170 51 (by decide)).trans (f56 51 (by decide))), show σ168 52 = σ 52 from ((f170 52 (by decide)).trans (f56 52 (by decide)))]; exact hr5), (show jByP (σ168 51) (σ168 52) (τ 54) by rw [show σ168 51 = σ 51 from ((f170 51 (by decide)).trans (f56 51 (by decide))), show σ168 52 = σ 52 from ((f170 52 (by decide)).trans (f56 52 (by decide)))]; exact hr6), (show jBk (σ168 48) (σ168 80) (σ168 49) (σ168 81) (σ168 55 47).toInt by rw [show σ168 48 = σ 48 from ((f170 48 (by decide)).trans (f56 48 (by decide))), show σ168 49 = σ 49 from ((f170 49 (by decide)).trans (f56 49 (by decide))), show σ168 80 = σ 80 from ((f170 80 (by decide)).trans (f56 80 (by decide))), show σ168 81 = σ 81 from ((f170 81 (by decide)).trans (f56 81 (by decide))), show (σ168 55 47).toInt = (σ 55 47).toInt from by omega]; exact hr7), (show jKd (σ168 39) (σ168 70) (σ168 55 32).toInt by rw [show σ168 39 = σ 39 from ((f170 39 (by decide)).trans (f56 39 (by decide))), show σ168 70 = σ 70 from ((f170 70 (by decide)).trans (f56 70 (by decide))), show (σ168 55 32).toInt = (σ 55 32).toInt from by omega]; exact hr8), (show jTt (σ168 42) (σ168 85) (σ168 55 55).toInt by rw [show σ168 42 = σ 42 from ((f170 42 (by decide)).trans (f56 42 (by decide))), show σ168 85 = σ 85 from ((f170 85 (by decide)).trans (f56 85 (by decide))), show (σ168 55 55).toInt = (σ 55 55).toInt from by omega]; exact hr9), (fun k hk => by rw [show σ168 4 = σ 4 from ((f170 4 (by decide)).trans (f56 4 (by decide))), show σ168 5 = σ 5 from ((f170 5 (by decide)).trans (f56 5 (by decide))), show σ168 60 = σ 60 from ((f170 60 (by decide)).trans (f56 60 (by decide))), show σ168 61 = σ 61 from ((f170 61 (by decide)).trans (f56 61 (by decide)))]; exact hr10 k (by omega)), (fun nm => by rw [show σ168 19 = σ 19 from ((f170 19 (by decide)).trans (f56 19 (by decide))), show σ168 64 = σ 64 from ((f170 64 (by decide)).trans (f56 64 (by decide))), show σ168 65 = σ 65 from ((f170 65 (by decide)).trans (f56 65 (by decide))), show (σ168 18 0).toInt = (σ 18 0).toInt from by omega]; exact hr11 nm), (fun nm => by rw [show σ168 23 = σ 23 from ((f170 23 (by decide)).trans (f56 23 (by decide))), show σ168 64 = σ 64 from ((f170 64 (by decide)).trans (f56 64 (by decide))), show σ168 65 = σ 65 from ((f170 65 (by decide)).trans (f56 65 (by decide))), show (σ168 22 0).toInt = (σ 22 0).toInt from by omega]; exact hr12 nm)⟩ hP hS (lv_sub hl [0, 1, 2, 3] rfl)
set_option maxHeartbeats 4000000 in
set_option maxRecDepth 100000 in
theorem law_case_2 {p : Program} {e : Env} {s : State} {m : MethodId} {below : List Frame} {meth : Method} {c : Code} (l : Launch) {b L : Nat} {xs : Nat → Int32} {D : va_G} {cI cL : ClassId} {ad zz : Nat → Nat} (C0 : lw_At p s m meth c b L xs) (hJ : jD ad) (hA : ∀ q, jA ad q → s.heap.size ≤ q) (hK : jK D cI cL s) (hZ : jZ zz (fun q : Nat => s.heap.size ≤ q) s s.heap) {x0 : Int32} (hx0 : 0 ≤ x0.toInt) (hxL : x0.toInt + 6 ≤ (L : Int)) (hL : L ≤ 384) {σ : Nat → Nat → Int32} {τ : Nat → Nat → Int64} {H : Heap} {locs : List Loc} (hS : va_S (fun q : Nat => s.heap.size ≤ q) s.heap H locs) {ls : Array Slot} (hAll : jAll x0.toInt σ τ) (hP : jH D cI cL ad σ τ H) (hl : lv_has ls 4 [(3, .int x0), (2, .ref (ad 55)), (1, .ref (ad 0)), (0, .ref b)]) (ih : ∀ (x1 : Int32) (σ : Nat → Nat → Int32) (τ : Nat → Nat → Int64) (H : Heap) (locs : List Loc) (ls : Array Slot), x1.toInt = x0.toInt + 6 → jAll x1.toInt σ τ → jH D cI cL ad σ τ H → va_S (fun q : Nat => s.heap.size ≤ q) s.heap H locs → lv_has ls 4 [(3, .int x1), (2, .ref (ad 55)), (1, .ref (ad 0)), (0, .ref b)] → W p l e room_1 s m #[Value.ref b] below meth c H locs 90 348600 (lw_Z below #[Value.ref b] s) (F0 m 18 ls [])) : W p l e room_1 s m #[Value.ref b] below meth c H locs 90 348600 (lw_Z below #[Value.ref b] s) (F0 m 282 ls []) := by
  obtain ⟨hx, hb, hr, hml, hown, hts0, hX, hbl, hlocks, hgv⟩ := C0
  have hts : ∀ w ∈ wsL_law, w.before #[Value.ref b] s = true := fun w h => hts0 w (wsL_law_in w h)
  have hbA : ¬ (fun q : Nat => s.heap.size ≤ q) b := Nat.not_le.mpr hbl
  have hown : s.vm.findClass RL = some m.cls := hown
  obtain ⟨hI2, hI9, hI12, hI16, hI18, hI22, hI31, hI38, hI43, hI47, hI50, hI0, hI26, hI101, hI102, hI103, hI104, hI105, hI106, hI107, hI109, hI110, hI111, hI119, hs_jKept, hs_jBook, hs_jNd12, hs_jN67, hs_jBl, hs_jKb, hs_jTR, hs_jKh, hs_jKg, ht0, ht1, ht2, ht3, ht4, ht5, ht6, ht7, ht8, ht9, ht10, ht11, ht12, ht13, hr0, hr1, hr2, hr3, hr4, hr5, hr6, hr7, hr8, hr9, hr10, hr11, hr12⟩ := hAll
  have hL9 : (L : Int) ≤ 384 := by omega
  obtain ⟨i1, i2, i3, i4, i5, w6⟩ : (0 ≤ (σ 2 0).toInt ∧ (σ 2 0).toInt ≤ 4) ∧ (0 ≤ (σ 2 1).toInt ∧ (σ 2 1).toInt ≤ 3) ∧ (0 ≤ (σ 2 2).toInt) ∧ (0 ≤ (σ 2 3).toInt) ∧ ((σ 2 2).toInt + (σ 2 3).toInt ≤ 40) ∧ (∀ k : Nat, k < 40 → 0 ≤ (σ 6 k).toInt ∧ (σ 6 k).toInt ≤ 67) := id hI2
  obtain ⟨i7, w8, w9⟩ : (0 ≤ (σ 9 0).toInt ∧ (σ 9 0).toInt ≤ 80) ∧ (∀ k : Nat, k < 80 → 0 ≤ (σ 10 k).toInt ∧ (σ 10 k).toInt ≤ 255) ∧ (∀ k : Nat, k < 8 → 0 ≤ (σ 11 k).toInt ∧ (σ 11 k).toInt ≤ 3) := id hI9
  obtain ⟨i10, i11, i12, w13⟩ : (1 ≤ (σ 16 0).toInt ∧ (σ 16 0).toInt ≤ 8) ∧ (1 ≤ (σ 16 1).toInt ∧ (σ 16 1).toInt ≤ 12) ∧ (0 ≤ (σ 16 2).toInt ∧ (σ 16 2).toInt ≤ 999) ∧ (∀ k : Nat, k < 8 → 0 ≤ (σ 17 k).toInt ∧ (σ 17 k).toInt ≤ 3) := id hI16
  obtain ⟨i14, i15, w16⟩ : (0 ≤ (σ 38 0).toInt ∧ (σ 38 0).toInt ≤ 20) ∧ (0 ≤ (σ 38 1).toInt ∧ (σ 38 1).toInt ≤ 1000) ∧ (∀ k : Nat, k < 20 → 0 ≤ (σ 39 k).toInt ∧ (σ 39 k).toInt ≤ 6) := id hI38
  obtain ⟨i17, w18, w19⟩ : (0 ≤ (σ 47 0).toInt ∧ (σ 47 0).toInt ≤ 12) ∧ (∀ k : Nat, k < 12 → 0 ≤ (σ 48 k).toInt ∧ (σ 48 k).toInt ≤ 3) ∧ (∀ k : Nat, k < 12 → 0 ≤ (σ 49 k).toInt ∧ (σ 49 k).toInt ≤ 1) := id hI47
  have w20 : ∀ k : Nat, k < 6 → 0 ≤ (σ 52 k).toInt ∧ (σ 52 k).toInt ≤ 60 := hI50
  have i21 : 1 ≤ (σ 26 6).toInt ∧ (σ 26 6).toInt ≤ 8000 := hI26
  obtain ⟨i22, i23, i24, w25, w26, w27, w28⟩ : (0 ≤ (σ 55 5).toInt) ∧ ((σ 55 5).toInt ≤ (σ 55 4).toInt) ∧ ((σ 55 4).toInt ≤ 40) ∧ (∀ k : Nat, k < 68 → (-200) ≤ (σ 56 k).toInt ∧ (σ 56 k).toInt ≤ 500) ∧ (∀ k : Nat, k < 40 → 0 ≤ (σ 57 k).toInt ∧ (σ 57 k).toInt ≤ 67) ∧ (∀ k : Nat, k < 40 → (-200) ≤ (σ 58 k).toInt ∧ (σ 58 k).toInt ≤ 500) ∧ (∀ k : Nat, k < 40 → (-200) ≤ (σ 59 k).toInt ∧ (σ 59 k).toInt ≤ 500) := id hI101
  obtain ⟨i29, w30, w31⟩ : (0 ≤ (σ 55 6).toInt ∧ (σ 55 6).toInt ≤ 4) ∧ (∀ k : Nat, k < 4 → 0 ≤ (σ 60 k).toInt ∧ (σ 60 k).toInt ≤ 50) ∧ (∀ k : Nat, k < 4 → 0 ≤ (σ 61 k).toInt ∧ (σ 61 k).toInt ≤ 20) := id hI102
  have i32 : 0 ≤ (σ 55 9).toInt ∧ (σ 55 9).toInt ≤ 3 := hI103
  obtain ⟨i33, i34, i35, w36, w37⟩ : (1 ≤ (σ 55 10).toInt ∧ (σ 55 10).toInt ≤ 8) ∧ (1 ≤ (σ 55 12).toInt ∧ (σ 55 12).toInt ≤ 12) ∧ (0 ≤ (σ 55 13).toInt ∧ (σ 55 13).toInt ≤ 999) ∧ (∀ k : Nat, k < 8 → 0 ≤ (σ 62 k).toInt ∧ (σ 62 k).toInt ≤ 3) ∧ (∀ k : Nat, k < 8 → 0 ≤ (σ 67 k).toInt ∧ (σ 67 k).toInt ≤ 3) := id hI104
  obtain ⟨i38, w39⟩ : (0 ≤ (σ 55 15).toInt ∧ (σ 55 15).toInt ≤ 80) ∧ (∀ k : Nat, k < 2 → (-1) ≤ (σ 65 k).toInt ∧ (σ 65 k).toInt ≤ 80) := id hI105
  obtain ⟨i40, w41, w42, w43⟩ : (0 ≤ (σ 55 32).toInt ∧ (σ 55 32).toInt ≤ 20) ∧ (∀ k : Nat, k < 20 → 0 ≤ (σ 70 k).toInt ∧ (σ 70 k).toInt ≤ 6) ∧ (∀ k : Nat, k < 20 → 0 ≤ (σ 71 k).toInt ∧ (σ 71 k).toInt ≤ 8) ∧ (∀ k : Nat, k < 160 → 0 ≤ (σ 72 k).toInt ∧ (σ 72 k).toInt ≤ 3) := id hI106
  obtain ⟨i44, i45, w46⟩ : (0 ≤ (σ 55 47).toInt ∧ (σ 55 47).toInt ≤ 12) ∧ ((σ 55 47).toInt ≤ (σ 55 12).toInt) ∧ (∀ k : Nat, k < 12 → 0 ≤ (σ 80 k).toInt ∧ (σ 80 k).toInt ≤ 3) := id hI107
  have hs_jOk3 : jOk3 σ := hr0.ok hr1.1
  refine lv_aload_n hx hb dL_law_282 rfl (lv_at hl 2 rfl) ?_
  refine lv_aload_n hx hb dL_law_283 rfl (lv_at hl 3 rfl) ?_
  refine lv_iload_n hx hb dL_law_284 rfl (lv_at hl 0 rfl) ?_
  refine lv_iconst (v := 1) hx hb dL_law_285 (by decide) ?_
  have g47 := jrg (rfl : x0.toInt = x0.toInt)
  refine lv_iadd hx hb dL_law_286 ?_
  refine lv_topi (fun x48 ex48 => ?_)
  have tx48 : x48.toInt = x0.toInt + 1 := (jadd ex48 rfl jz_1 (by omega) (by omega)).trans (by omega)
  refine va_sld hx hb hX hbl hbA hS (jin tx48 (by omega) (by omega)) dL_law_287 ?_
  have g49 := jrg (rfl : (xs x48.toNatClampNeg).toInt = (xs x48.toNatClampNeg).toInt)
  refine lv_aload_n hx hb dL_law_288 rfl (lv_at hl 3 rfl) ?_
  refine lv_iload_n hx hb dL_law_289 rfl (lv_at hl 0 rfl) ?_
  refine lv_iconst (v := 2) hx hb dL_law_290 (by decide) ?_
  refine lv_iadd hx hb dL_law_291 ?_
  refine lv_topi (fun x50 ex50 => ?_)
  have tx50 : x50.toInt = x0.toInt + 2 := (jadd ex50 rfl jz_2 (by omega) (by omega)).trans (by omega)
  refine va_sld hx hb hX hbl hbA hS (jin tx50 (by omega) (by omega)) dL_law_292 ?_
  have g51 := jrg (rfl : (xs x50.toNatClampNeg).toInt = (xs x50.toNatClampNeg).toInt)
  refine lv_aload_n hx hb dL_law_293 rfl (lv_at hl 3 rfl) ?_
  refine lv_iload_n hx hb dL_law_294 rfl (lv_at hl 0 rfl) ?_
  refine lv_iconst (v := 3) hx hb dL_law_295 (by decide) ?_
  refine lv_iadd hx hb dL_law_296 ?_
  refine lv_topi (fun x52 ex52 => ?_)
  have tx52 : x52.toInt = x0.toInt + 3 := (jadd ex52 rfl jz_3 (by omega) (by omega)).trans (by omega)
  refine va_sld hx hb hX hbl hbA hS (jin tx52 (by omega) (by omega)) dL_law_297 ?_
  have g53 := jrg (rfl : (xs x52.toNatClampNeg).toInt = (xs x52.toNatClampNeg).toInt)
  refine jcallV (As := [.int (xs x48.toNatClampNeg), .int (xs x50.toNatClampNeg), .int (xs x52.toNatClampNeg)]) (rest := []) ⟨hx, hb, hml, hown, hts⟩ hK hP hA hS hZ (c_X11_field l D cI cL ad zz hJ σ τ (xs x48.toNatClampNeg) ((xs x48.toNatClampNeg).toInt) rfl (xs x50.toNatClampNeg) ((xs x50.toNatClampNeg).toInt) rfl (xs x52.toNatClampNeg) ((xs x52.toNatClampNeg).toInt) rfl hI2) cw_RL_22 (jc_0 cI cL ad σ τ) rfl ⟨Nat.le_of_ble_eq_true rfl, Nat.le_of_ble_eq_true rfl⟩ rfl rfl rfl hl.1 rfl (Nat.le_of_ble_eq_true rfl) dL_law_298 ⟨Nat.le_of_ble_eq_true rfl, Nat.le_of_ble_eq_true rfl⟩ (fun r55 σ54 τ54 H locs h54 hP hS => ?_)
  obtain ⟨rfl, f56, f57, I58, h54⟩ := h54
  obtain ⟨i60, i61, i62, i63, i64, w65⟩ : (0 ≤ (σ54 2 0).toInt ∧ (σ54 2 0).toInt ≤ 4) ∧ (0 ≤ (σ54 2 1).toInt ∧ (σ54 2 1).toInt ≤ 3) ∧ (0 ≤ (σ54 2 2).toInt) ∧ (0 ≤ (σ54 2 3).toInt) ∧ ((σ54 2 2).toInt + (σ54 2 3).toInt ≤ 40) ∧ (∀ k : Nat, k < 40 → 0 ≤ (σ54 6 k).toInt ∧ (σ54 6 k).toInt ≤ 67) := id I58
  have z66 : (σ54 2 0).toInt = (σ 2 0).toInt := (congrArg Int32.toInt (show σ54 2 0 = (σ 2 0) from (f57 0 (by decide))))
  have z67 : (σ54 2 1).toInt = (σ 2 1).toInt := (congrArg Int32.toInt (show σ54 2 1 = (σ 2 1) from (f57 1 (by decide))))
  rcases h54 with h68 | h69
  · obtain ⟨q74, k70, k71, k72, k73⟩ := h68
    have q74 := q74.symm
    subst q74
    refine lv_pop hx hb dL_law_301 rfl ?_
    refine lv_aload_n hx hb dL_law_302 rfl (lv_at hl 1 rfl) ?_
    refine lv_aload_n hx hb dL_law_303 rfl (lv_at hl 3 rfl) ?_
    refine lv_iload_n hx hb dL_law_304 rfl (lv_at hl 0 rfl) ?_
    refine lv_iconst (v := 1) hx hb dL_law_305 (by decide) ?_
    refine lv_iadd hx hb dL_law_306 ?_
    refine jtopr ex48.symm ?_
    refine va_sld hx hb hX hbl hbA hS (jin tx48 (by omega) (by omega)) dL_law_307 ?_
    refine lv_aload_n hx hb dL_law_308 rfl (lv_at hl 3 rfl) ?_
    refine lv_iload_n hx hb dL_law_309 rfl (lv_at hl 0 rfl) ?_
    refine lv_iconst (v := 2) hx hb dL_law_310 (by decide) ?_
    refine lv_iadd hx hb dL_law_311 ?_
    refine jtopr ex50.symm ?_
    refine va_sld hx hb hX hbl hbA hS (jin tx50 (by omega) (by omega)) dL_law_312 ?_
    refine lv_aload_n hx hb dL_law_313 rfl (lv_at hl 3 rfl) ?_
    refine lv_iload_n hx hb dL_law_314 rfl (lv_at hl 0 rfl) ?_
    refine lv_iconst (v := 3) hx hb dL_law_315 (by decide) ?_
    refine lv_iadd hx hb dL_law_316 ?_
    refine jtopr ex52.symm ?_
    refine va_sld hx hb hX hbl hbA hS (jin tx52 (by omega) (by omega)) dL_law_317 ?_
    have I75 : jI101 σ54 := jI101_fr (congrFun (f56 55 (by decide)) 4) (congrFun (f56 55 (by decide)) 5) (f56 56 (by decide)) (f56 57 (by decide)) (f56 58 (by decide)) (f56 59 (by decide)) hI101
    have z76 : (σ54 55 5).toInt = (σ 55 5).toInt := (congrArg Int32.toInt (show σ54 55 5 = (σ 55 5) from (congrFun (f56 55 (by decide)) 5)))
    have z77 : (σ54 55 4).toInt = (σ 55 4).toInt := (congrArg Int32.toInt (show σ54 55 4 = (σ 55 4) from (congrFun (f56 55 (by decide)) 4)))
    refine jcallV (As := [.int (xs x48.toNatClampNeg), .int (xs x50.toNatClampNeg), .int (xs x52.toNatClampNeg)]) (rest := []) ⟨hx, hb, hml, hown, hts⟩ hK hP hA hS hZ (c_X12_field l D cI cL ad zz hJ σ54 τ (xs x48.toNatClampNeg) ((xs x48.toNatClampNeg).toInt) rfl (xs x50.toNatClampNeg) ((xs x50.toNatClampNeg).toInt) rfl (xs x52.toNatClampNeg) ((xs x52.toNatClampNeg).toInt) rfl I75) cw_RL_25 (jc_55 cI cL ad σ54 τ) rfl ⟨Nat.le_of_ble_eq_true rfl, Nat.le_of_ble_eq_true rfl⟩ rfl rfl rfl hl.1 rfl (Nat.le_of_ble_eq_true rfl) dL_law_318 ⟨Nat.le_of_ble_eq_true rfl, Nat.le_of_ble_eq_true rfl⟩ (fun r79 σ78 τ78 H locs h78 hP hS => ?_)
    obtain ⟨rfl, f80, f81, I82, h78⟩ := h78
    obtain ⟨i84, i85, i86, w87, w88, w89, w90⟩ : (0 ≤ (σ78 55 5).toInt) ∧ ((σ78 55 5).toInt ≤ (σ78 55 4).toInt) ∧ ((σ78 55 4).toInt ≤ 40) ∧ (∀ k : Nat, k < 68 → (-200) ≤ (σ78 56 k).toInt ∧ (σ78 56 k).toInt ≤ 500) ∧ (∀ k : Nat, k < 40 → 0 ≤ (σ78 57 k).toInt ∧ (σ78 57 k).toInt ≤ 67) ∧ (∀ k : Nat, k < 40 → (-200) ≤ (σ78 58 k).toInt ∧ (σ78 58 k).toInt ≤ 500) ∧ (∀ k : Nat, k < 40 → (-200) ≤ (σ78 59 k).toInt ∧ (σ78 59 k).toInt ≤ 500) := id I82
    rcases h78 with h91 | h92
    · obtain ⟨q97, k93, k94, k95, k96⟩ := h91
      have q97 := q97.symm
      subst q97
      have z98 : (σ54 55 6).toInt = (σ 55 6).toInt := (congrArg Int32.toInt (show σ54 55 6 = (σ 55 6) from (congrFun (f56 55 (by decide)) 6)))
      rw [show (σ54 55 6).toInt = (σ 2 0).toInt from by omega] at k95
      refine lv_pop hx hb dL_law_321 rfl ?_
      refine lv_goto (tgt := 1357) hx hb dL_law_322 (by decide) ?_
      obtain ⟨x99, ex99⟩ : ∃ y : Int32, y = x0 + 6 := ⟨_, rfl⟩
      have tx99 : x99.toInt = x0.toInt + 6 := (jadd ex99 rfl jz_6 (by omega) (by omega)).trans (by omega)
      refine lv_iinc (v := x99) (lv' := [(3, .int x99), (2, .ref (ad 55)), (1, .ref (ad 0)), (0, .ref b)]) hx hb dL_law_1357 hl (k := 0) rfl (by rw [ex99]; rfl) (by decide) rfl (fun ls hl => ?_)
      refine lv_goto (tgt := 18) hx hb dL_law_1360 (by decide) ?_
      have I100 : jI2 σ78 := jI2_fr (congrFun (f80 2 (by decide)) 0) (congrFun (f80 2 (by decide)) 1) (congrFun (f80 2 (by decide)) 2) (congrFun (f80 2 (by decide)) 3) (f80 6 (by decide)) I58
      have I101 : jI9 σ78 := jI9_fr ((congrFun (f80 9 (by decide)) 0).trans (congrFun (f56 9 (by decide)) 0)) ((f80 10 (by decide)).trans (f56 10 (by decide))) ((f80 11 (by decide)).trans (f56 11 (by decide))) hI9
      have I102 : jI12 σ78 := jI12_fr ((congrFun (f80 12 (by decide)) 0).trans (congrFun (f56 12 (by decide)) 0)) ((f80 13 (by decide)).trans (f56 13 (by decide))) hI12
      have I103 : jI16 σ78 := jI16_fr ((congrFun (f80 16 (by decide)) 0).trans (congrFun (f56 16 (by decide)) 0)) ((congrFun (f80 16 (by decide)) 1).trans (congrFun (f56 16 (by decide)) 1)) ((congrFun (f80 16 (by decide)) 2).trans (congrFun (f56 16 (by decide)) 2)) ((f80 17 (by decide)).trans (f56 17 (by decide))) hI16
      have I104 : jI18 σ78 := jI18_fr ((congrFun (f80 18 (by decide)) 0).trans (congrFun (f56 18 (by decide)) 0)) ((f80 19 (by decide)).trans (f56 19 (by decide))) hI18
      have I105 : jI22 σ78 := jI22_fr ((congrFun (f80 22 (by decide)) 0).trans (congrFun (f56 22 (by decide)) 0)) ((f80 23 (by decide)).trans (f56 23 (by decide))) hI22
      have I106 : jI31 σ78 := jI31_fr ((congrFun (f80 31 (by decide)) 8).trans (congrFun (f56 31 (by decide)) 8)) ((congrFun (f80 31 (by decide)) 10).trans (congrFun (f56 31 (by decide)) 10)) ((congrFun (f80 31 (by decide)) 11).trans (congrFun (f56 31 (by decide)) 11)) ((f80 33 (by decide)).trans (f56 33 (by decide))) ((f80 35 (by decide)).trans (f56 35 (by decide))) ((f80 36 (by decide)).trans (f56 36 (by decide))) hI31
      have I107 : jI38 σ78 := jI38_fr ((congrFun (f80 38 (by decide)) 0).trans (congrFun (f56 38 (by decide)) 0)) ((congrFun (f80 38 (by decide)) 1).trans (congrFun (f56 38 (by decide)) 1)) ((f80 39 (by decide)).trans (f56 39 (by decide))) hI38
      have I108 : jI43 σ78 := jI43_fr ((congrFun (f80 43 (by decide)) 8).trans (congrFun (f56 43 (by decide)) 8)) hI43
      have I109 : jI47 σ78 := jI47_fr ((congrFun (f80 47 (by decide)) 0).trans (congrFun (f56 47 (by decide)) 0)) ((f80 48 (by decide)).trans (f56 48 (by decide))) ((f80 49 (by decide)).trans (f56 49 (by decide))) hI47
      have I110 : jI50 σ78 := jI50_fr ((f80 52 (by decide)).trans (f56 52 (by decide))) hI50
      have I111 : jI0 σ78 := jI0_fr ((f80 1 (by decide)).trans (f56 1 (by decide))) hI0
      have I112 : jI26 σ78 := jI26_fr ((congrFun (f80 26 (by decide)) 6).trans (congrFun (f56 26 (by decide)) 6)) hI26
      have I113 : jI102 σ78 := jI102_fr ((f81 6 (by decide)).trans (congrFun (f56 55 (by decide)) 6)) ((f80 60 (by decide)).trans (f56 60 (by decide))) ((f80 61 (by decide)).trans (f56 61 (by decide))) hI102
      have I114 : jI103 σ78 := jI103_fr ((f81 9 (by decide)).trans (congrFun (f56 55 (by decide)) 9)) hI103
      have I115 : jI104 σ78 := jI104_fr ((f81 10 (by decide)).trans (congrFun (f56 55 (by decide)) 10)) ((f81 12 (by decide)).trans (congrFun (f56 55 (by decide)) 12)) ((f81 13 (by decide)).trans (congrFun (f56 55 (by decide)) 13)) ((f80 62 (by decide)).trans (f56 62 (by decide))) ((f80 67 (by decide)).trans (f56 67 (by decide))) hI104
      have I116 : jI105 σ78 := jI105_fr ((f81 15 (by decide)).trans (congrFun (f56 55 (by decide)) 15)) ((f80 65 (by decide)).trans (f56 65 (by decide))) hI105
      have I117 : jI106 σ78 := jI106_fr ((f81 32 (by decide)).trans (congrFun (f56 55 (by decide)) 32)) ((f80 70 (by decide)).trans (f56 70 (by decide))) ((f80 71 (by decide)).trans (f56 71 (by decide))) ((f80 72 (by decide)).trans (f56 72 (by decide))) hI106
      have I118 : jI107 σ78 := jI107_fr ((f81 12 (by decide)).trans (congrFun (f56 55 (by decide)) 12)) ((f81 47 (by decide)).trans (congrFun (f56 55 (by decide)) 47)) ((f80 80 (by decide)).trans (f56 80 (by decide))) hI107
      have I119 : jI109 σ78 := jI109_fr ((f81 50 (by decide)).trans (congrFun (f56 55 (by decide)) 50)) hI109
      have I120 : jI110 σ78 := jI110_fr ((f80 86 (by decide)).trans (f56 86 (by decide))) ((f80 87 (by decide)).trans (f56 87 (by decide))) hI110
      have I121 : jI111 σ78 := jI111_fr ((f80 79 (by decide)).trans (f56 79 (by decide))) hI111
      have I122 : jI119 σ78 := jI119_fr ((f80 68 (by decide)).trans (f56 68 (by decide))) hI119
      have p123 : jKept σ78 := jKept.fr ((f80 75 (by decide)).trans (f56 75 (by decide))) ((f80 76 (by decide)).trans (f56 76 (by decide))) ((f80 77 (by decide)).trans (f56 77 (by decide))) hs_jKept
      have p124 : jBook σ78 := jBook.fr ((f81 47 (by decide)).trans (congrFun (f56 55 (by decide)) 47)) ((f81 10 (by decide)).trans (congrFun (f56 55 (by decide)) 10)) ((f80 81 (by decide)).trans (f56 81 (by decide))) hs_jBook
      have p125 : jNd12 σ78 := jNd12.fr ((congrFun (f80 12 (by decide)) 0).trans (congrFun (f56 12 (by decide)) 0)) ((congrFun (f80 12 (by decide)) 1).trans (congrFun (f56 12 (by decide)) 1)) ((f80 13 (by decide)).trans (f56 13 (by decide))) hs_jNd12
      have p126 : jN67 σ78 := jN67.fr ((f80 24 (by decide)).trans (f56 24 (by decide))) hs_jN67
      have p127 : jBl σ78 := jBl.fr ((congrFun (f80 22 (by decide)) 0).trans (congrFun (f56 22 (by decide)) 0)) ((congrFun (f80 22 (by decide)) 1).trans (congrFun (f56 22 (by decide)) 1)) ((f80 23 (by decide)).trans (f56 23 (by decide))) ((congrFun (f80 26 (by decide)) 6).trans (congrFun (f56 26 (by decide)) 6)) ((congrFun (f80 26 (by decide)) 7).trans (congrFun (f56 26 (by decide)) 7)) ((f80 29 (by decide)).trans (f56 29 (by decide))) ((f80 30 (by decide)).trans (f56 30 (by decide))) hs_jBl
      have p128 : jKb σ78 := jKb.fr ((congrFun (f80 31 (by decide)) 8).trans (congrFun (f56 31 (by decide)) 8)) ((congrFun (f80 31 (by decide)) 11).trans (congrFun (f56 31 (by decide)) 11)) ((f80 32 (by decide)).trans (f56 32 (by decide))) hs_jKb
      have p129 : jTR σ78 := jTR.fr ((f80 64 (by decide)).trans (f56 64 (by decide))) ((f80 65 (by decide)).trans (f56 65 (by decide))) hs_jTR
      have p130 : jKh σ78 := jKh.fr ((congrFun (f80 31 (by decide)) 8).trans (congrFun (f56 31 (by decide)) 8)) ((f80 32 (by decide)).trans (f56 32 (by decide))) ((f80 36 (by decide)).trans (f56 36 (by decide))) ((f80 37 (by decide)).trans (f56 37 (by decide))) hs_jKh
      have p131 : jKg σ78 := jKg.fr ((congrFun (f80 31 (by decide)) 8).trans (congrFun (f56 31 (by decide)) 8)) ((congrFun (f80 31 (by decide)) 9).trans (congrFun (f56 31 (by decide)) 9)) ((congrFun (f80 31 (by decide)) 11).trans (congrFun (f56 31 (by decide)) 11)) ((congrFun (f80 31 (by decide)) 12).trans (congrFun (f56 31 (by decide)) 12)) ((f80 32 (by decide)).trans (f56 32 (by decide))) ((f80 33 (by decide)).trans (f56 33 (by decide))) hs_jKg
      have z132 : (σ78 2 0).toInt = (σ 2 0).toInt := (congrArg Int32.toInt (show σ78 2 0 = (σ 2 0) from ((congrFun (f80 2 (by decide)) 0).trans (f57 0 (by decide)))))
      have z133 : (σ78 55 6).toInt = (σ 55 6).toInt := (congrArg Int32.toInt (show σ78 55 6 = (σ 55 6) from ((f81 6 (by decide)).trans (congrFun (f56 55 (by decide)) 6))))
      have z134 : (σ78 2 2).toInt = (σ54 2 2).toInt := (congrArg Int32.toInt (show σ78 2 2 = (σ54 2 2) from (congrFun (f80 2 (by decide)) 2)))
      have z135 : (σ78 2 3).toInt = (σ54 2 3).toInt := (congrArg Int32.toInt (show σ78 2 3 = (σ54 2 3) from (congrFun (f80 2 (by decide)) 3)))
      have z136 : (σ78 9 0).toInt = (σ 9 0).toInt := (congrArg Int32.toInt (show σ78 9 0 = (σ 9 0) from ((congrFun (f80 9 (by decide)) 0).trans (congrFun (f56 9 (by decide)) 0))))
      have z137 : (σ78 55 15).toInt = (σ 55 15).toInt := (congrArg Int32.toInt (show σ78 55 15 = (σ 55 15) from ((f81 15 (by decide)).trans (congrFun (f56 55 (by decide)) 15))))
      have z138 : (σ78 16 0).toInt = (σ 16 0).toInt := (congrArg Int32.toInt (show σ78 16 0 = (σ 16 0) from ((congrFun (f80 16 (by decide)) 0).trans (congrFun (f56 16 (by decide)) 0))))
      have z139 : (σ78 55 10).toInt = (σ 55 10).toInt := (congrArg Int32.toInt (show σ78 55 10 = (σ 55 10) from ((f81 10 (by decide)).trans (congrFun (f56 55 (by decide)) 10))))
      have z140 : (σ78 16 1).toInt = (σ 16 1).toInt := (congrArg Int32.toInt (show σ78 16 1 = (σ 16 1) from ((congrFun (f80 16 (by decide)) 1).trans (congrFun (f56 16 (by decide)) 1))))
      have z141 : (σ78 55 12).toInt = (σ 55 12).toInt := (congrArg Int32.toInt (show σ78 55 12 = (σ 55 12) from ((f81 12 (by decide)).trans (congrFun (f56 55 (by decide)) 12))))
      have z142 : (σ78 16 2).toInt = (σ 16 2).toInt := (congrArg Int32.toInt (show σ78 16 2 = (σ 16 2) from ((congrFun (f80 16 (by decide)) 2).trans (congrFun (f56 16 (by decide)) 2))))
      have z143 : (σ78 55 13).toInt = (σ 55 13).toInt := (congrArg Int32.toInt (show σ78 55 13 = (σ 55 13) from ((f81 13 (by decide)).trans (congrFun (f56 55 (by decide)) 13))))
      have z144 : (σ78 38 0).toInt = (σ 38 0).toInt := (congrArg Int32.toInt (show σ78 38 0 = (σ 38 0) from ((congrFun (f80 38 (by decide)) 0).trans (congrFun (f56 38 (by decide)) 0))))
      have z145 : (σ78 55 32).toInt = (σ 55 32).toInt := (congrArg Int32.toInt (show σ78 55 32 = (σ 55 32) from ((f81 32 (by decide)).trans (congrFun (f56 55 (by decide)) 32))))
      have z146 : (σ78 38 1).toInt = (σ 38 1).toInt := (congrArg Int32.toInt (show σ78 38 1 = (σ 38 1) from ((congrFun (f80 38 (by decide)) 1).trans (congrFun (f56 38 (by decide)) 1))))
      have z147 : (σ78 55 55).toInt = (σ 55 55).toInt := (congrArg Int32.toInt (show σ78 55 55 = (σ 55 55) from ((f81 55 (by decide)).trans (congrFun (f56 55 (by decide)) 55))))
      have z148 : (σ78 47 0).toInt = (σ 47 0).toInt := (congrArg Int32.toInt (show σ78 47 0 = (σ 47 0) from ((congrFun (f80 47 (by decide)) 0).trans (congrFun (f56 47 (by decide)) 0))))
      have z149 : (σ78 55 47).toInt = (σ 55 47).toInt := (congrArg Int32.toInt (show σ78 55 47 = (σ 55 47) from ((f81 47 (by decide)).trans (congrFun (f56 55 (by decide)) 47))))
      have z150 : (σ78 55 30).toInt = (σ 55 30).toInt := (congrArg Int32.toInt (show σ78 55 30 = (σ 55 30) from ((f81 30 (by decide)).trans (congrFun (f56 55 (by decide)) 30))))
      have z151 : (σ78 55 31).toInt = (σ 55 31).toInt := (congrArg Int32.toInt (show σ78 55 31 = (σ 55 31) from ((f81 31 (by decide)).trans (congrFun (f56 55 (by decide)) 31))))
      have z152 : (σ78 2 1).toInt = (σ 2 1).toInt := (congrArg Int32.toInt (show σ78 2 1 = (σ 2 1) from ((congrFun (f80 2 (by decide)) 1).trans (f57 1 (by decide)))))
      have z153 : (σ78 55 9).toInt = (σ 55 9).toInt := (congrArg Int32.toInt (show σ78 55 9 = (σ 55 9) from ((f81 9 (by decide)).trans (congrFun (f56 55 (by decide)) 9))))
      have z154 : (σ78 26 6).toInt = (σ 26 6).toInt := (congrArg Int32.toInt (show σ78 26 6 = (σ 26 6) from ((congrFun (f80 26 (by decide)) 6).trans (congrFun (f56 26 (by decide)) 6))))
      have z156 : (σ78 18 0).toInt = (σ 18 0).toInt := (congrArg Int32.toInt (show σ78 18 0 = (σ 18 0) from ((congrFun (f80 18 (by decide)) 0).trans (congrFun (f56 18 (by decide)) 0))))
      have z157 : (σ78 22 0).toInt = (σ 22 0).toInt := (congrArg Int32.toInt (show σ78 22 0 = (σ 22 0) from ((congrFun (f80 22 (by decide)) 0).trans (congrFun (f56 22 (by decide)) 0))))
      exact ih x99 σ78 τ _ _ ls (by have h9 := tx99; omega) ⟨I100, I101, I102, I103, I104, I105, I106, I107, I108, I109, I110, I111, I112, I82, I113, I114, I115, I116, I117, I118, I119, I120, I121, I122, p123, p124, p125, p126, p127, p128, p129, p130, p131, (by omega), (by omega), (by omega), (by omega), (by omega), (by omega), (by omega), (by omega), (by omega), (by omega), (by omega), (by omega), (by omega), (by have h9 := tx99; omega), (show jNumP (σ78 3) (σ78 56) (σ78 6) (σ78 57) (σ78 7) (σ78 58) (σ78 8) (σ78 59) (σ78 55 6).toInt (σ78 55 4).toInt by rw [show σ78 3 = σ 3 from ((f80 3 (by decide)).trans k73.1), show σ78 56 = σ 56 from (k96.1.trans (f56 56 (by decide))), show σ78 6 = σ 6 from ((f80 6 (by decide)).trans k73.2.1), show σ78 57 = σ 57 from (k96.2.1.trans (f56 57 (by decide))), show σ78 7 = σ 7 from ((f80 7 (by decide)).trans k73.2.2.1), show σ78 58 = σ 58 from (k96.2.2.1.trans (f56 58 (by decide))), show σ78 8 = σ 8 from ((f80 8 (by decide)).trans k73.2.2.2), show σ78 59 = σ 59 from (k96.2.2.2.trans (f56 59 (by decide))), show (σ78 55 6).toInt = (σ 55 6).toInt from by omega, show (σ78 55 4).toInt = (σ 55 4).toInt from by omega]; exact hr0), (show jOvP (σ78 56) (σ78 57) (σ78 58) (σ78 59) (σ78 55 4).toInt by rw [show σ78 56 = σ 56 from (k96.1.trans (f56 56 (by decide))), show σ78 57 = σ 57 from (k96.2.1.trans (f56 57 (by decide))), show σ78 58 = σ 58 from (k96.2.2.1.trans (f56 58 (by decide))), show σ78 59 = σ 59 from (k96.2.2.2.trans (f56 59 (by decide))), show (σ78 55 4).toInt = (σ 55 4).toInt from by omega]; exact hr1), (show jTp (σ78 10) (σ78 63) (σ78 55 15).toInt by rw [show σ78 10 = σ 10 from ((f80 10 (by decide)).trans (f56 10 (by decide))), show σ78 63 = σ 63 from ((f80 63 (by decide)).trans (f56 63 (by decide)))]; exact hr2.le (by omega)), (show jSo (σ78 17) (σ78 62) (σ78 16 0).toInt by rw [show σ78 17 = σ 17 from ((f80 17 (by decide)).trans (f56 17 (by decide))), show σ78 62 = σ 62 from ((f80 62 (by decide)).trans (f56 62 (by decide))), show (σ78 16 0).toInt = (σ 16 0).toInt from by omega]; exact hr3), (show jShP (σ78 51) (σ78 52) (σ78 53) (σ78 86) (σ78 87) (σ78 55 32).toInt by rw [show σ78 51 = σ 51 from ((f80 51 (by decide)).trans (f56 51 (by decide))), show σ78 52 = σ 52 from ((f80 52 (by decide)).trans (f56 52 (by decide))), show σ78 53 = σ 53 from ((f80 53 (by decide)).trans (f56 53 (by decide))), show σ78 86 = σ 86 from ((f80 86 (by decide)).trans (f56 86 (by decide))), show σ78 87 = σ 87 from ((f80 87 (by decide)).trans (f56 87 (by decide)))]; exact (hr4.up (by omega) (by omega))), (show jEl (σ78 51) (σ78 52) (τ 54) (τ 88) by rw [show σ78 51 = σ 51 from ((f80 51 (by decide)).trans (f56 51 (by decide))), show σ78 52 = σ 52 from ((f80 52 (by decide)).trans (f56 52 (by decide)))]; exact hr5), (show jByP (σ78 51) (σ78 52) (τ 54) by rw [show σ78 51 = σ 51 from ((f80 51 (by decide)).trans (f56 51 (by decide))), show σ78 52 = σ 52 from ((f80 52 (by decide)).trans (f56 52 (by decide)))]; exact hr6), (show jBk (σ78 48) (σ78 80) (σ78 49) (σ78 81) (σ78 55 47).toInt by rw [show σ78 48 = σ 48 from ((f80 48 (by decide)).trans (f56 48 (by decide))), show σ78 49 = σ 49 from ((f80 49 (by decide)).trans (f56 49 (by decide))), show σ78 80 = σ 80 from ((f80 80 (by decide)).trans (f56 80 (by decide))), show σ78 81 = σ 81 from ((f80 81 (by decide)).trans (f56 81 (by decide))), show (σ78 55 47).toInt = (σ 55 47).toInt from by omega]; exact hr7), (show jKd (σ78 39) (σ78 70) (σ78 55 32).toInt by rw [show σ78 39 = σ 39 from ((f80 39 (by decide)).trans (f56 39 (by decide))), show σ78 70 = σ 70 from ((f80 70 (by decide)).trans (f56 70 (by decide))), show (σ78 55 32).toInt = (σ 55 32).toInt from by omega]; exact hr8), (show jTt (σ78 42) (σ78 85) (σ78 55 55).toInt by rw [show σ78 42 = σ 42 from ((f80 42 (by decide)).trans (f56 42 (by decide))), show σ78 85 = σ 85 from ((f80 85 (by decide)).trans (f56 85 (by decide))), show (σ78 55 55).toInt = (σ 55 55).toInt from by omega]; exact hr9), (fun k hk => by rw [show σ78 4 = σ 4 from ((f80 4 (by decide)).trans (f56 4 (by decide))), show σ78 5 = σ 5 from ((f80 5 (by decide)).trans (f56 5 (by decide))), show σ78 60 = σ 60 from ((f80 60 (by decide)).trans (f56 60 (by decide))), show σ78 61 = σ 61 from ((f80 61 (by decide)).trans (f56 61 (by decide)))]; exact hr10 k (by omega)), (fun nm => by rw [show σ78 19 = σ 19 from ((f80 19 (by decide)).trans (f56 19 (by decide))), show σ78 64 = σ 64 from ((f80 64 (by decide)).trans (f56 64 (by decide))), show σ78 65 = σ 65 from ((f80 65 (by decide)).trans (f56 65 (by decide))), show (σ78 18 0).toInt = (σ 18 0).toInt from by omega]; exact hr11 nm), (fun nm => by rw [show σ78 23 = σ 23 from ((f80 23 (by decide)).trans (f56 23 (by decide))), show σ78 64 = σ 64 from ((f80 64 (by decide)).trans (f56 64 (by decide))), show σ78 65 = σ 65 from ((f80 65 (by decide)).trans (f56 65 (by decide))), show (σ78 22 0).toInt = (σ 22 0).toInt from by omega]; exact hr12 nm)⟩ hP hS (lv_sub hl [0, 1, 2, 3] rfl)
    · obtain ⟨q159, k158⟩ := h92
      have z160 : (σ54 55 6).toInt = (σ 55 6).toInt := (congrArg Int32.toInt (show σ54 55 6 = (σ 55 6) from (congrFun (f56 55 (by decide)) 6)))
      rw [show (σ54 55 6).toInt = (σ 2 0).toInt from by omega] at k158
      exact absurd k158.1 k72
  · obtain ⟨q162, k161⟩ := h69
    refine lv_pop hx hb dL_law_301 rfl ?_
    refine lv_aload_n hx hb dL_law_302 rfl (lv_at hl 1 rfl) ?_
    refine lv_aload_n hx hb dL_law_303 rfl (lv_at hl 3 rfl) ?_
    refine lv_iload_n hx hb dL_law_304 rfl (lv_at hl 0 rfl) ?_
    refine lv_iconst (v := 1) hx hb dL_law_305 (by decide) ?_
    refine lv_iadd hx hb dL_law_306 ?_
    refine jtopr ex48.symm ?_
    refine va_sld hx hb hX hbl hbA hS (jin tx48 (by omega) (by omega)) dL_law_307 ?_
    refine lv_aload_n hx hb dL_law_308 rfl (lv_at hl 3 rfl) ?_
    refine lv_iload_n hx hb dL_law_309 rfl (lv_at hl 0 rfl) ?_
    refine lv_iconst (v := 2) hx hb dL_law_310 (by decide) ?_
    refine lv_iadd hx hb dL_law_311 ?_
    refine jtopr ex50.symm ?_
    refine va_sld hx hb hX hbl hbA hS (jin tx50 (by omega) (by omega)) dL_law_312 ?_
    refine lv_aload_n hx hb dL_law_313 rfl (lv_at hl 3 rfl) ?_
    refine lv_iload_n hx hb dL_law_314 rfl (lv_at hl 0 rfl) ?_
    refine lv_iconst (v := 3) hx hb dL_law_315 (by decide) ?_
    refine lv_iadd hx hb dL_law_316 ?_
    refine jtopr ex52.symm ?_
    refine va_sld hx hb hX hbl hbA hS (jin tx52 (by omega) (by omega)) dL_law_317 ?_
    have I163 : jI101 σ54 := jI101_fr (congrFun (f56 55 (by decide)) 4) (congrFun (f56 55 (by decide)) 5) (f56 56 (by decide)) (f56 57 (by decide)) (f56 58 (by decide)) (f56 59 (by decide)) hI101
    have z164 : (σ54 55 5).toInt = (σ 55 5).toInt := (congrArg Int32.toInt (show σ54 55 5 = (σ 55 5) from (congrFun (f56 55 (by decide)) 5)))
    have z165 : (σ54 55 4).toInt = (σ 55 4).toInt := (congrArg Int32.toInt (show σ54 55 4 = (σ 55 4) from (congrFun (f56 55 (by decide)) 4)))
    refine jcallV (As := [.int (xs x48.toNatClampNeg), .int (xs x50.toNatClampNeg), .int (xs x52.toNatClampNeg)]) (rest := []) ⟨hx, hb, hml, hown, hts⟩ hK hP hA hS hZ (c_X12_field l D cI cL ad zz hJ σ54 τ (xs x48.toNatClampNeg) ((xs x48.toNatClampNeg).toInt) rfl (xs x50.toNatClampNeg) ((xs x50.toNatClampNeg).toInt) rfl (xs x52.toNatClampNeg) ((xs x52.toNatClampNeg).toInt) rfl I163) cw_RL_25 (jc_55 cI cL ad σ54 τ) rfl ⟨Nat.le_of_ble_eq_true rfl, Nat.le_of_ble_eq_true rfl⟩ rfl rfl rfl hl.1 rfl (Nat.le_of_ble_eq_true rfl) dL_law_318 ⟨Nat.le_of_ble_eq_true rfl, Nat.le_of_ble_eq_true rfl⟩ (fun r167 σ166 τ166 H locs h166 hP hS => ?_)
    obtain ⟨rfl, f168, f169, I170, h166⟩ := h166
    obtain ⟨i172, i173, i174, w175, w176, w177, w178⟩ : (0 ≤ (σ166 55 5).toInt) ∧ ((σ166 55 5).toInt ≤ (σ166 55 4).toInt) ∧ ((σ166 55 4).toInt ≤ 40) ∧ (∀ k : Nat, k < 68 → (-200) ≤ (σ166 56 k).toInt ∧ (σ166 56 k).toInt ≤ 500) ∧ (∀ k : Nat, k < 40 → 0 ≤ (σ166 57 k).toInt ∧ (σ166 57 k).toInt ≤ 67) ∧ (∀ k : Nat, k < 40 → (-200) ≤ (σ166 58 k).toInt ∧ (σ166 58 k).toInt ≤ 500) ∧ (∀ k : Nat, k < 40 → (-200) ≤ (σ166 59 k).toInt ∧ (σ166 59 k).toInt ≤ 500) := id I170
    rcases h166 with h179 | h180
    · obtain ⟨q185, k181, k182, k183, k184⟩ := h179
      have q185 := q185.symm
      subst q185
      have z186 : (σ54 55 6).toInt = (σ 55 6).toInt := (congrArg Int32.toInt (show σ54 55 6 = (σ 55 6) from (congrFun (f56 55 (by decide)) 6)))
      rw [show (σ54 55 6).toInt = (σ 2 0).toInt from by omega] at k183
      exact absurd k161.1 k183
    · obtain ⟨q188, k187⟩ := h180
      have z189 : (σ54 55 6).toInt = (σ 55 6).toInt := (congrArg Int32.toInt (show σ54 55 6 = (σ 55 6) from (congrFun (f56 55 (by decide)) 6)))
      rw [show (σ54 55 6).toInt = (σ 2 0).toInt from by omega] at k187
      obtain ⟨e190, q191, l192, c193⟩ := k161
      obtain ⟨-, q194, l195, c196⟩ := k187
      have p197 := jField_pl (by omega) e190 l192 l195
      rw [show σ54 56 = σ 56 from (f56 56 (by decide)), show σ54 57 = σ 57 from (f56 57 (by decide)), show σ54 58 = σ 58 from (f56 58 (by decide)), show σ54 59 = σ 59 from (f56 59 (by decide)), show (σ54 55 4).toInt = (σ 55 4).toInt from by omega] at c196
      have r201 := hr0.res p197.1 (by have h9 := p197.2.1; omega) c193 c196 p197.2.2
      have k200 := hr0.chg p197.1 (by have h9 := p197.2.1; omega) c193 c196 p197.2.2 (by omega) (by omega) (by omega)
      have k198 := k200.2.1
      have k199 := k200.2.2
      have o202 : 32 ≤ q194 → q194 ≤ 35 → 0 ≤ (xs x52.toNatClampNeg).toInt ∧ (xs x52.toNatClampNeg).toInt ≤ 8 := fun x y => by
        have e := e190
        have l := l195
        unfold jFok at e; unfold jFpl at l; omega
      refine lv_pop hx hb dL_law_321 rfl ?_
      refine lv_goto (tgt := 1357) hx hb dL_law_322 (by decide) ?_
      obtain ⟨x203, ex203⟩ : ∃ y : Int32, y = x0 + 6 := ⟨_, rfl⟩
      have tx203 : x203.toInt = x0.toInt + 6 := (jadd ex203 rfl jz_6 (by omega) (by omega)).trans (by omega)
      refine lv_iinc (v := x203) (lv' := [(3, .int x203), (2, .ref (ad 55)), (1, .ref (ad 0)), (0, .ref b)]) hx hb dL_law_1357 hl (k := 0) rfl (by rw [ex203]; rfl) (by decide) rfl (fun ls hl => ?_)
      refine lv_goto (tgt := 18) hx hb dL_law_1360 (by decide) ?_
      have I204 : jI2 σ166 := jI2_fr (congrFun (f168 2 (by decide)) 0) (congrFun (f168 2 (by decide)) 1) (congrFun (f168 2 (by decide)) 2) (congrFun (f168 2 (by decide)) 3) (f168 6 (by decide)) I58
      have I205 : jI9 σ166 := jI9_fr ((congrFun (f168 9 (by decide)) 0).trans (congrFun (f56 9 (by decide)) 0)) ((f168 10 (by decide)).trans (f56 10 (by decide))) ((f168 11 (by decide)).trans (f56 11 (by decide))) hI9
      have I206 : jI12 σ166 := jI12_fr ((congrFun (f168 12 (by decide)) 0).trans (congrFun (f56 12 (by decide)) 0)) ((f168 13 (by decide)).trans (f56 13 (by decide))) hI12
      have I207 : jI16 σ166 := jI16_fr ((congrFun (f168 16 (by decide)) 0).trans (congrFun (f56 16 (by decide)) 0)) ((congrFun (f168 16 (by decide)) 1).trans (congrFun (f56 16 (by decide)) 1)) ((congrFun (f168 16 (by decide)) 2).trans (congrFun (f56 16 (by decide)) 2)) ((f168 17 (by decide)).trans (f56 17 (by decide))) hI16
      have I208 : jI18 σ166 := jI18_fr ((congrFun (f168 18 (by decide)) 0).trans (congrFun (f56 18 (by decide)) 0)) ((f168 19 (by decide)).trans (f56 19 (by decide))) hI18
      have I209 : jI22 σ166 := jI22_fr ((congrFun (f168 22 (by decide)) 0).trans (congrFun (f56 22 (by decide)) 0)) ((f168 23 (by decide)).trans (f56 23 (by decide))) hI22
      have I210 : jI31 σ166 := jI31_fr ((congrFun (f168 31 (by decide)) 8).trans (congrFun (f56 31 (by decide)) 8)) ((congrFun (f168 31 (by decide)) 10).trans (congrFun (f56 31 (by decide)) 10)) ((congrFun (f168 31 (by decide)) 11).trans (congrFun (f56 31 (by decide)) 11)) ((f168 33 (by decide)).trans (f56 33 (by decide))) ((f168 35 (by decide)).trans (f56 35 (by decide))) ((f168 36 (by decide)).trans (f56 36 (by decide))) hI31
      have I211 : jI38 σ166 := jI38_fr ((congrFun (f168 38 (by decide)) 0).trans (congrFun (f56 38 (by decide)) 0)) ((congrFun (f168 38 (by decide)) 1).trans (congrFun (f56 38 (by decide)) 1)) ((f168 39 (by decide)).trans (f56 39 (by decide))) hI38
      have I212 : jI43 σ166 := jI43_fr ((congrFun (f168 43 (by decide)) 8).trans (congrFun (f56 43 (by decide)) 8)) hI43
      have I213 : jI47 σ166 := jI47_fr ((congrFun (f168 47 (by decide)) 0).trans (congrFun (f56 47 (by decide)) 0)) ((f168 48 (by decide)).trans (f56 48 (by decide))) ((f168 49 (by decide)).trans (f56 49 (by decide))) hI47
      have I214 : jI50 σ166 := jI50_fr ((f168 52 (by decide)).trans (f56 52 (by decide))) hI50
      have I215 : jI0 σ166 := jI0_fr ((f168 1 (by decide)).trans (f56 1 (by decide))) hI0
      have I216 : jI26 σ166 := jI26_fr ((congrFun (f168 26 (by decide)) 6).trans (congrFun (f56 26 (by decide)) 6)) hI26
      have I217 : jI102 σ166 := jI102_fr ((f169 6 (by decide)).trans (congrFun (f56 55 (by decide)) 6)) ((f168 60 (by decide)).trans (f56 60 (by decide))) ((f168 61 (by decide)).trans (f56 61 (by decide))) hI102
      have I218 : jI103 σ166 := jI103_fr ((f169 9 (by decide)).trans (congrFun (f56 55 (by decide)) 9)) hI103
      have I219 : jI104 σ166 := jI104_fr ((f169 10 (by decide)).trans (congrFun (f56 55 (by decide)) 10)) ((f169 12 (by decide)).trans (congrFun (f56 55 (by decide)) 12)) ((f169 13 (by decide)).trans (congrFun (f56 55 (by decide)) 13)) ((f168 62 (by decide)).trans (f56 62 (by decide))) ((f168 67 (by decide)).trans (f56 67 (by decide))) hI104
      have I220 : jI105 σ166 := jI105_fr ((f169 15 (by decide)).trans (congrFun (f56 55 (by decide)) 15)) ((f168 65 (by decide)).trans (f56 65 (by decide))) hI105
      have I221 : jI106 σ166 := jI106_fr ((f169 32 (by decide)).trans (congrFun (f56 55 (by decide)) 32)) ((f168 70 (by decide)).trans (f56 70 (by decide))) ((f168 71 (by decide)).trans (f56 71 (by decide))) ((f168 72 (by decide)).trans (f56 72 (by decide))) hI106
      have I222 : jI107 σ166 := jI107_fr ((f169 12 (by decide)).trans (congrFun (f56 55 (by decide)) 12)) ((f169 47 (by decide)).trans (congrFun (f56 55 (by decide)) 47)) ((f168 80 (by decide)).trans (f56 80 (by decide))) hI107
      have I223 : jI109 σ166 := jI109_fr ((f169 50 (by decide)).trans (congrFun (f56 55 (by decide)) 50)) hI109
      have I224 : jI110 σ166 := jI110_fr ((f168 86 (by decide)).trans (f56 86 (by decide))) ((f168 87 (by decide)).trans (f56 87 (by decide))) hI110
      have I225 : jI111 σ166 := jI111_fr ((f168 79 (by decide)).trans (f56 79 (by decide))) hI111
      have I226 : jI119 σ166 := jI119_fr ((f168 68 (by decide)).trans (f56 68 (by decide))) hI119
      have p227 : jKept σ166 := jKept.fr ((f168 75 (by decide)).trans (f56 75 (by decide))) ((f168 76 (by decide)).trans (f56 76 (by decide))) ((f168 77 (by decide)).trans (f56 77 (by decide))) hs_jKept
      have p228 : jBook σ166 := jBook.fr ((f169 47 (by decide)).trans (congrFun (f56 55 (by decide)) 47)) ((f169 10 (by decide)).trans (congrFun (f56 55 (by decide)) 10)) ((f168 81 (by decide)).trans (f56 81 (by decide))) hs_jBook
      have p229 : jNd12 σ166 := jNd12.fr ((congrFun (f168 12 (by decide)) 0).trans (congrFun (f56 12 (by decide)) 0)) ((congrFun (f168 12 (by decide)) 1).trans (congrFun (f56 12 (by decide)) 1)) ((f168 13 (by decide)).trans (f56 13 (by decide))) hs_jNd12
      have p230 : jN67 σ166 := jN67.fr ((f168 24 (by decide)).trans (f56 24 (by decide))) hs_jN67
      have p231 : jBl σ166 := jBl.fr ((congrFun (f168 22 (by decide)) 0).trans (congrFun (f56 22 (by decide)) 0)) ((congrFun (f168 22 (by decide)) 1).trans (congrFun (f56 22 (by decide)) 1)) ((f168 23 (by decide)).trans (f56 23 (by decide))) ((congrFun (f168 26 (by decide)) 6).trans (congrFun (f56 26 (by decide)) 6)) ((congrFun (f168 26 (by decide)) 7).trans (congrFun (f56 26 (by decide)) 7)) ((f168 29 (by decide)).trans (f56 29 (by decide))) ((f168 30 (by decide)).trans (f56 30 (by decide))) hs_jBl
      have p232 : jKb σ166 := jKb.fr ((congrFun (f168 31 (by decide)) 8).trans (congrFun (f56 31 (by decide)) 8)) ((congrFun (f168 31 (by decide)) 11).trans (congrFun (f56 31 (by decide)) 11)) ((f168 32 (by decide)).trans (f56 32 (by decide))) hs_jKb
      have p233 : jTR σ166 := jTR.fr ((f168 64 (by decide)).trans (f56 64 (by decide))) ((f168 65 (by decide)).trans (f56 65 (by decide))) hs_jTR
      have p234 : jKh σ166 := jKh.fr ((congrFun (f168 31 (by decide)) 8).trans (congrFun (f56 31 (by decide)) 8)) ((f168 32 (by decide)).trans (f56 32 (by decide))) ((f168 36 (by decide)).trans (f56 36 (by decide))) ((f168 37 (by decide)).trans (f56 37 (by decide))) hs_jKh
      have p235 : jKg σ166 := jKg.fr ((congrFun (f168 31 (by decide)) 8).trans (congrFun (f56 31 (by decide)) 8)) ((congrFun (f168 31 (by decide)) 9).trans (congrFun (f56 31 (by decide)) 9)) ((congrFun (f168 31 (by decide)) 11).trans (congrFun (f56 31 (by decide)) 11)) ((congrFun (f168 31 (by decide)) 12).trans (congrFun (f56 31 (by decide)) 12)) ((f168 32 (by decide)).trans (f56 32 (by decide))) ((f168 33 (by decide)).trans (f56 33 (by decide))) hs_jKg
      have z236 : (σ166 2 0).toInt = (σ 2 0).toInt := (congrArg Int32.toInt (show σ166 2 0 = (σ 2 0) from ((congrFun (f168 2 (by decide)) 0).trans (f57 0 (by decide)))))
      have z237 : (σ166 55 6).toInt = (σ 55 6).toInt := (congrArg Int32.toInt (show σ166 55 6 = (σ 55 6) from ((f169 6 (by decide)).trans (congrFun (f56 55 (by decide)) 6))))
      have z238 : (σ166 2 2).toInt = (σ54 2 2).toInt := (congrArg Int32.toInt (show σ166 2 2 = (σ54 2 2) from (congrFun (f168 2 (by decide)) 2)))
      have z239 : (σ166 2 3).toInt = (σ54 2 3).toInt := (congrArg Int32.toInt (show σ166 2 3 = (σ54 2 3) from (congrFun (f168 2 (by decide)) 3)))
      have z240 : (σ166 9 0).toInt = (σ 9 0).toInt := (congrArg Int32.toInt (show σ166 9 0 = (σ 9 0) from ((congrFun (f168 9 (by decide)) 0).trans (congrFun (f56 9 (by decide)) 0))))
      have z241 : (σ166 55 15).toInt = (σ 55 15).toInt := (congrArg Int32.toInt (show σ166 55 15 = (σ 55 15) from ((f169 15 (by decide)).trans (congrFun (f56 55 (by decide)) 15))))
      have z242 : (σ166 16 0).toInt = (σ 16 0).toInt := (congrArg Int32.toInt (show σ166 16 0 = (σ 16 0) from ((congrFun (f168 16 (by decide)) 0).trans (congrFun (f56 16 (by decide)) 0))))
      have z243 : (σ166 55 10).toInt = (σ 55 10).toInt := (congrArg Int32.toInt (show σ166 55 10 = (σ 55 10) from ((f169 10 (by decide)).trans (congrFun (f56 55 (by decide)) 10))))
      have z244 : (σ166 16 1).toInt = (σ 16 1).toInt := (congrArg Int32.toInt (show σ166 16 1 = (σ 16 1) from ((congrFun (f168 16 (by decide)) 1).trans (congrFun (f56 16 (by decide)) 1))))
      have z245 : (σ166 55 12).toInt = (σ 55 12).toInt := (congrArg Int32.toInt (show σ166 55 12 = (σ 55 12) from ((f169 12 (by decide)).trans (congrFun (f56 55 (by decide)) 12))))
      have z246 : (σ166 16 2).toInt = (σ 16 2).toInt := (congrArg Int32.toInt (show σ166 16 2 = (σ 16 2) from ((congrFun (f168 16 (by decide)) 2).trans (congrFun (f56 16 (by decide)) 2))))
      have z247 : (σ166 55 13).toInt = (σ 55 13).toInt := (congrArg Int32.toInt (show σ166 55 13 = (σ 55 13) from ((f169 13 (by decide)).trans (congrFun (f56 55 (by decide)) 13))))
      have z248 : (σ166 38 0).toInt = (σ 38 0).toInt := (congrArg Int32.toInt (show σ166 38 0 = (σ 38 0) from ((congrFun (f168 38 (by decide)) 0).trans (congrFun (f56 38 (by decide)) 0))))
      have z249 : (σ166 55 32).toInt = (σ 55 32).toInt := (congrArg Int32.toInt (show σ166 55 32 = (σ 55 32) from ((f169 32 (by decide)).trans (congrFun (f56 55 (by decide)) 32))))
      have z250 : (σ166 38 1).toInt = (σ 38 1).toInt := (congrArg Int32.toInt (show σ166 38 1 = (σ 38 1) from ((congrFun (f168 38 (by decide)) 1).trans (congrFun (f56 38 (by decide)) 1))))
      have z251 : (σ166 55 55).toInt = (σ 55 55).toInt := (congrArg Int32.toInt (show σ166 55 55 = (σ 55 55) from ((f169 55 (by decide)).trans (congrFun (f56 55 (by decide)) 55))))
      have z252 : (σ166 47 0).toInt = (σ 47 0).toInt := (congrArg Int32.toInt (show σ166 47 0 = (σ 47 0) from ((congrFun (f168 47 (by decide)) 0).trans (congrFun (f56 47 (by decide)) 0))))
      have z253 : (σ166 55 47).toInt = (σ 55 47).toInt := (congrArg Int32.toInt (show σ166 55 47 = (σ 55 47) from ((f169 47 (by decide)).trans (congrFun (f56 55 (by decide)) 47))))
      have z254 : (σ166 55 30).toInt = (σ 55 30).toInt := (congrArg Int32.toInt (show σ166 55 30 = (σ 55 30) from ((f169 30 (by decide)).trans (congrFun (f56 55 (by decide)) 30))))
      have z255 : (σ166 55 31).toInt = (σ 55 31).toInt := (congrArg Int32.toInt (show σ166 55 31 = (σ 55 31) from ((f169 31 (by decide)).trans (congrFun (f56 55 (by decide)) 31))))
      have z256 : (σ166 2 1).toInt = (σ 2 1).toInt := (congrArg Int32.toInt (show σ166 2 1 = (σ 2 1) from ((congrFun (f168 2 (by decide)) 1).trans (f57 1 (by decide)))))
      have z257 : (σ166 55 9).toInt = (σ 55 9).toInt := (congrArg Int32.toInt (show σ166 55 9 = (σ 55 9) from ((f169 9 (by decide)).trans (congrFun (f56 55 (by decide)) 9))))
      have z258 : (σ166 26 6).toInt = (σ 26 6).toInt := (congrArg Int32.toInt (show σ166 26 6 = (σ 26 6) from ((congrFun (f168 26 (by decide)) 6).trans (congrFun (f56 26 (by decide)) 6))))
      have z260 : (σ166 18 0).toInt = (σ 18 0).toInt := (congrArg Int32.toInt (show σ166 18 0 = (σ 18 0) from ((congrFun (f168 18 (by decide)) 0).trans (congrFun (f56 18 (by decide)) 0))))
      have z261 : (σ166 22 0).toInt = (σ 22 0).toInt := (congrArg Int32.toInt (show σ166 22 0 = (σ 22 0) from ((congrFun (f168 22 (by decide)) 0).trans (congrFun (f56 22 (by decide)) 0))))
      exact ih x203 σ166 τ _ _ ls (by have h9 := tx203; omega) ⟨I204, I205, I206, I207, I208, I209, I210, I211, I212, I213, I214, I215, I216, I170, I217, I218, I219, I220, I221, I222, I223, I224, I225, I226, p227, p228, p229, p230, p231, p232, p233, p234, p235, (by omega), (by omega), (by omega), (by omega), (by omega), (by omega), (by omega), (by omega), (by omega), (by omega), (by omega), (by omega), (by omega), (by have h9 := tx203; omega), (show jNumP (σ166 3) (σ166 56) (σ166 6) (σ166 57) (σ166 7) (σ166 58) (σ166 8) (σ166 59) (σ166 55 6).toInt (σ166 55 4).toInt by rw [show σ166 3 = σ54 3 from (f168 3 (by decide)), show σ166 6 = σ54 6 from (f168 6 (by decide)), show σ166 7 = σ54 7 from (f168 7 (by decide)), show σ166 8 = σ54 8 from (f168 8 (by decide)), show (σ166 55 6).toInt = (σ 55 6).toInt from by omega]; exact k200.1), (hr1.chg c196 (by have h8 := p197.1; have h9 := p197.2.2; omega) (by omega) o202), (show jTp (σ166 10) (σ166 63) (σ166 55 15).toInt by rw [show σ166 10 = σ 10 from ((f168 10 (by decide)).trans (f56 10 (by decide))), show σ166 63 = σ 63 from ((f168 63 (by decide)).trans (f56 63 (by decide)))]; exact hr2.le (by omega)), (show jSo (σ166 17) (σ166 62) (σ166 16 0).toInt by rw [show σ166 17 = σ 17 from ((f168 17 (by decide)).trans (f56 17 (by decide))), show σ166 62 = σ 62 from ((f168 62 (by decide)).trans (f56 62 (by decide))), show (σ166 16 0).toInt = (σ 16 0).toInt from by omega]; exact hr3), (show jShP (σ166 51) (σ166 52) (σ166 53) (σ166 86) (σ166 87) (σ166 55 32).toInt by rw [show σ166 51 = σ 51 from ((f168 51 (by decide)).trans (f56 51 (by decide))), show σ166 52 = σ 52 from ((f168 52 (by decide)).trans (f56 52 (by decide))), show σ166 53 = σ 53 from ((f168 53 (by decide)).trans (f56 53 (by decide))), show σ166 86 = σ 86 from ((f168 86 (by decide)).trans (f56 86 (by decide))), show σ166 87 = σ 87 from ((f168 87 (by decide)).trans (f56 87 (by decide)))]; exact (hr4.up (by omega) (by omega))), (show jEl (σ166 51) (σ166 52) (τ 54) (τ 88) by rw [show σ166 51 = σ 51 from ((f168 51 (by decide)).trans (f56 51 (by decide))), show σ166 52 = σ 52 from ((f168 52 (by decide)).trans (f56 52 (by decide)))]; exact hr5), (show jByP (σ166 51) (σ166 52) (τ 54) by rw [show σ166 51 = σ 51 from ((f168 51 (by decide)).trans (f56 51 (by decide))), show σ166 52 = σ 52 from ((f168 52 (by decide)).trans (f56 52 (by decide)))]; exact hr6), (show jBk (σ166 48) (σ166 80) (σ166 49) (σ166 81) (σ166 55 47).toInt by rw [show σ166 48 = σ 48 from ((f168 48 (by decide)).trans (f56 48 (by decide))), show σ166 49 = σ 49 from ((f168 49 (by decide)).trans (f56 49 (by decide))), show σ166 80 = σ 80 from ((f168 80 (by decide)).trans (f56 80 (by decide))), show σ166 81 = σ 81 from ((f168 81 (by decide)).trans (f56 81 (by decide))), show (σ166 55 47).toInt = (σ 55 47).toInt from by omega]; exact hr7), (show jKd (σ166 39) (σ166 70) (σ166 55 32).toInt by rw [show σ166 39 = σ 39 from ((f168 39 (by decide)).trans (f56 39 (by decide))), show σ166 70 = σ 70 from ((f168 70 (by decide)).trans (f56 70 (by decide))), show (σ166 55 32).toInt = (σ 55 32).toInt from by omega]; exact hr8), (show jTt (σ166 42) (σ166 85) (σ166 55 55).toInt by rw [show σ166 42 = σ 42 from ((f168 42 (by decide)).trans (f56 42 (by decide))), show σ166 85 = σ 85 from ((f168 85 (by decide)).trans (f56 85 (by decide))), show (σ166 55 55).toInt = (σ 55 55).toInt from by omega]; exact hr9), (fun k hk => by rw [show σ166 4 = σ 4 from ((f168 4 (by decide)).trans (f56 4 (by decide))), show σ166 5 = σ 5 from ((f168 5 (by decide)).trans (f56 5 (by decide))), show σ166 60 = σ 60 from ((f168 60 (by decide)).trans (f56 60 (by decide))), show σ166 61 = σ 61 from ((f168 61 (by decide)).trans (f56 61 (by decide)))]; exact hr10 k (by omega)), (fun nm => by rw [show σ166 19 = σ 19 from ((f168 19 (by decide)).trans (f56 19 (by decide))), show σ166 64 = σ 64 from ((f168 64 (by decide)).trans (f56 64 (by decide))), show σ166 65 = σ 65 from ((f168 65 (by decide)).trans (f56 65 (by decide))), show (σ166 18 0).toInt = (σ 18 0).toInt from by omega]; exact hr11 nm), (fun nm => by rw [show σ166 23 = σ 23 from ((f168 23 (by decide)).trans (f56 23 (by decide))), show σ166 64 = σ 64 from ((f168 64 (by decide)).trans (f56 64 (by decide))), show σ166 65 = σ 65 from ((f168 65 (by decide)).trans (f56 65 (by decide))), show (σ166 22 0).toInt = (σ 22 0).toInt from by omega]; exact hr12 nm)⟩ hP hS (lv_sub hl [0, 1, 2, 3] rfl)
set_option maxHeartbeats 4000000 in
set_option maxRecDepth 100000 in
theorem law_case_3 {p : Program} {e : Env} {s : State} {m : MethodId} {below : List Frame} {meth : Method} {c : Code} (l : Launch) {b L : Nat} {xs : Nat → Int32} {D : va_G} {cI cL : ClassId} {ad zz : Nat → Nat} (C0 : lw_At p s m meth c b L xs) (hJ : jD ad) (hA : ∀ q, jA ad q → s.heap.size ≤ q) (hK : jK D cI cL s) (hZ : jZ zz (fun q : Nat => s.heap.size ≤ q) s s.heap) {x0 : Int32} (hx0 : 0 ≤ x0.toInt) (hxL : x0.toInt + 6 ≤ (L : Int)) (hL : L ≤ 384) {σ : Nat → Nat → Int32} {τ : Nat → Nat → Int64} {H : Heap} {locs : List Loc} (hS : va_S (fun q : Nat => s.heap.size ≤ q) s.heap H locs) {ls : Array Slot} (hAll : jAll x0.toInt σ τ) (hP : jH D cI cL ad σ τ H) (hl : lv_has ls 4 [(3, .int x0), (2, .ref (ad 55)), (1, .ref (ad 0)), (0, .ref b)]) (ih : ∀ (x1 : Int32) (σ : Nat → Nat → Int32) (τ : Nat → Nat → Int64) (H : Heap) (locs : List Loc) (ls : Array Slot), x1.toInt = x0.toInt + 6 → jAll x1.toInt σ τ → jH D cI cL ad σ τ H → va_S (fun q : Nat => s.heap.size ≤ q) s.heap H locs → lv_has ls 4 [(3, .int x1), (2, .ref (ad 55)), (1, .ref (ad 0)), (0, .ref b)] → W p l e room_1 s m #[Value.ref b] below meth c H locs 90 348600 (lw_Z below #[Value.ref b] s) (F0 m 18 ls [])) : W p l e room_1 s m #[Value.ref b] below meth c H locs 90 348600 (lw_Z below #[Value.ref b] s) (F0 m 325 ls []) := by
  obtain ⟨hx, hb, hr, hml, hown, hts0, hX, hbl, hlocks, hgv⟩ := C0
  have hts : ∀ w ∈ wsL_law, w.before #[Value.ref b] s = true := fun w h => hts0 w (wsL_law_in w h)
  have hbA : ¬ (fun q : Nat => s.heap.size ≤ q) b := Nat.not_le.mpr hbl
  have hown : s.vm.findClass RL = some m.cls := hown
  obtain ⟨hI2, hI9, hI12, hI16, hI18, hI22, hI31, hI38, hI43, hI47, hI50, hI0, hI26, hI101, hI102, hI103, hI104, hI105, hI106, hI107, hI109, hI110, hI111, hI119, hs_jKept, hs_jBook, hs_jNd12, hs_jN67, hs_jBl, hs_jKb, hs_jTR, hs_jKh, hs_jKg, ht0, ht1, ht2, ht3, ht4, ht5, ht6, ht7, ht8, ht9, ht10, ht11, ht12, ht13, hr0, hr1, hr2, hr3, hr4, hr5, hr6, hr7, hr8, hr9, hr10, hr11, hr12⟩ := hAll
  have hL9 : (L : Int) ≤ 384 := by omega
  obtain ⟨i1, i2, i3, i4, i5, w6⟩ : (0 ≤ (σ 2 0).toInt ∧ (σ 2 0).toInt ≤ 4) ∧ (0 ≤ (σ 2 1).toInt ∧ (σ 2 1).toInt ≤ 3) ∧ (0 ≤ (σ 2 2).toInt) ∧ (0 ≤ (σ 2 3).toInt) ∧ ((σ 2 2).toInt + (σ 2 3).toInt ≤ 40) ∧ (∀ k : Nat, k < 40 → 0 ≤ (σ 6 k).toInt ∧ (σ 6 k).toInt ≤ 67) := id hI2
  obtain ⟨i7, w8, w9⟩ : (0 ≤ (σ 9 0).toInt ∧ (σ 9 0).toInt ≤ 80) ∧ (∀ k : Nat, k < 80 → 0 ≤ (σ 10 k).toInt ∧ (σ 10 k).toInt ≤ 255) ∧ (∀ k : Nat, k < 8 → 0 ≤ (σ 11 k).toInt ∧ (σ 11 k).toInt ≤ 3) := id hI9
  obtain ⟨i10, i11, i12, w13⟩ : (1 ≤ (σ 16 0).toInt ∧ (σ 16 0).toInt ≤ 8) ∧ (1 ≤ (σ 16 1).toInt ∧ (σ 16 1).toInt ≤ 12) ∧ (0 ≤ (σ 16 2).toInt ∧ (σ 16 2).toInt ≤ 999) ∧ (∀ k : Nat, k < 8 → 0 ≤ (σ 17 k).toInt ∧ (σ 17 k).toInt ≤ 3) := id hI16
  obtain ⟨i14, i15, w16⟩ : (0 ≤ (σ 38 0).toInt ∧ (σ 38 0).toInt ≤ 20) ∧ (0 ≤ (σ 38 1).toInt ∧ (σ 38 1).toInt ≤ 1000) ∧ (∀ k : Nat, k < 20 → 0 ≤ (σ 39 k).toInt ∧ (σ 39 k).toInt ≤ 6) := id hI38
  obtain ⟨i17, w18, w19⟩ : (0 ≤ (σ 47 0).toInt ∧ (σ 47 0).toInt ≤ 12) ∧ (∀ k : Nat, k < 12 → 0 ≤ (σ 48 k).toInt ∧ (σ 48 k).toInt ≤ 3) ∧ (∀ k : Nat, k < 12 → 0 ≤ (σ 49 k).toInt ∧ (σ 49 k).toInt ≤ 1) := id hI47
  have w20 : ∀ k : Nat, k < 6 → 0 ≤ (σ 52 k).toInt ∧ (σ 52 k).toInt ≤ 60 := hI50
  have i21 : 1 ≤ (σ 26 6).toInt ∧ (σ 26 6).toInt ≤ 8000 := hI26
  obtain ⟨i22, i23, i24, w25, w26, w27, w28⟩ : (0 ≤ (σ 55 5).toInt) ∧ ((σ 55 5).toInt ≤ (σ 55 4).toInt) ∧ ((σ 55 4).toInt ≤ 40) ∧ (∀ k : Nat, k < 68 → (-200) ≤ (σ 56 k).toInt ∧ (σ 56 k).toInt ≤ 500) ∧ (∀ k : Nat, k < 40 → 0 ≤ (σ 57 k).toInt ∧ (σ 57 k).toInt ≤ 67) ∧ (∀ k : Nat, k < 40 → (-200) ≤ (σ 58 k).toInt ∧ (σ 58 k).toInt ≤ 500) ∧ (∀ k : Nat, k < 40 → (-200) ≤ (σ 59 k).toInt ∧ (σ 59 k).toInt ≤ 500) := id hI101
  obtain ⟨i29, w30, w31⟩ : (0 ≤ (σ 55 6).toInt ∧ (σ 55 6).toInt ≤ 4) ∧ (∀ k : Nat, k < 4 → 0 ≤ (σ 60 k).toInt ∧ (σ 60 k).toInt ≤ 50) ∧ (∀ k : Nat, k < 4 → 0 ≤ (σ 61 k).toInt ∧ (σ 61 k).toInt ≤ 20) := id hI102
  have i32 : 0 ≤ (σ 55 9).toInt ∧ (σ 55 9).toInt ≤ 3 := hI103
  obtain ⟨i33, i34, i35, w36, w37⟩ : (1 ≤ (σ 55 10).toInt ∧ (σ 55 10).toInt ≤ 8) ∧ (1 ≤ (σ 55 12).toInt ∧ (σ 55 12).toInt ≤ 12) ∧ (0 ≤ (σ 55 13).toInt ∧ (σ 55 13).toInt ≤ 999) ∧ (∀ k : Nat, k < 8 → 0 ≤ (σ 62 k).toInt ∧ (σ 62 k).toInt ≤ 3) ∧ (∀ k : Nat, k < 8 → 0 ≤ (σ 67 k).toInt ∧ (σ 67 k).toInt ≤ 3) := id hI104
  obtain ⟨i38, w39⟩ : (0 ≤ (σ 55 15).toInt ∧ (σ 55 15).toInt ≤ 80) ∧ (∀ k : Nat, k < 2 → (-1) ≤ (σ 65 k).toInt ∧ (σ 65 k).toInt ≤ 80) := id hI105
  obtain ⟨i40, w41, w42, w43⟩ : (0 ≤ (σ 55 32).toInt ∧ (σ 55 32).toInt ≤ 20) ∧ (∀ k : Nat, k < 20 → 0 ≤ (σ 70 k).toInt ∧ (σ 70 k).toInt ≤ 6) ∧ (∀ k : Nat, k < 20 → 0 ≤ (σ 71 k).toInt ∧ (σ 71 k).toInt ≤ 8) ∧ (∀ k : Nat, k < 160 → 0 ≤ (σ 72 k).toInt ∧ (σ 72 k).toInt ≤ 3) := id hI106
  obtain ⟨i44, i45, w46⟩ : (0 ≤ (σ 55 47).toInt ∧ (σ 55 47).toInt ≤ 12) ∧ ((σ 55 47).toInt ≤ (σ 55 12).toInt) ∧ (∀ k : Nat, k < 12 → 0 ≤ (σ 80 k).toInt ∧ (σ 80 k).toInt ≤ 3) := id hI107
  have hs_jOk3 : jOk3 σ := hr0.ok hr1.1
  refine lv_aload_n hx hb dL_law_325 rfl (lv_at hl 2 rfl) ?_
  refine lv_aload_n hx hb dL_law_326 rfl (lv_at hl 3 rfl) ?_
  refine lv_iload_n hx hb dL_law_327 rfl (lv_at hl 0 rfl) ?_
  refine lv_iconst (v := 1) hx hb dL_law_328 (by decide) ?_
  have g47 := jrg (rfl : x0.toInt = x0.toInt)
  refine lv_iadd hx hb dL_law_329 ?_
  refine lv_topi (fun x48 ex48 => ?_)
  have tx48 : x48.toInt = x0.toInt + 1 := (jadd ex48 rfl jz_1 (by omega) (by omega)).trans (by omega)
  refine va_sld hx hb hX hbl hbA hS (jin tx48 (by omega) (by omega)) dL_law_330 ?_
  have g49 := jrg (rfl : (xs x48.toNatClampNeg).toInt = (xs x48.toNatClampNeg).toInt)
  refine jcallV (As := [.int (xs x48.toNatClampNeg)]) (rest := []) ⟨hx, hb, hml, hown, hts⟩ hK hP hA hS hZ (c_X11_set l D cI cL ad zz hJ σ τ (xs x48.toNatClampNeg) ((xs x48.toNatClampNeg).toInt) rfl hI2) cw_RL_26 (jc_0 cI cL ad σ τ) rfl ⟨Nat.le_of_ble_eq_true rfl, Nat.le_of_ble_eq_true rfl⟩ rfl rfl rfl hl.1 rfl (Nat.le_of_ble_eq_true rfl) dL_law_331 ⟨Nat.le_of_ble_eq_true rfl, Nat.le_of_ble_eq_true rfl⟩ (fun r51 σ50 τ50 H locs h50 hP hS => ?_)
  obtain ⟨rfl, f52, f53, I54, h50⟩ := h50
  obtain ⟨i56, i57, i58, i59, i60, w61⟩ : (0 ≤ (σ50 2 0).toInt ∧ (σ50 2 0).toInt ≤ 4) ∧ (0 ≤ (σ50 2 1).toInt ∧ (σ50 2 1).toInt ≤ 3) ∧ (0 ≤ (σ50 2 2).toInt) ∧ (0 ≤ (σ50 2 3).toInt) ∧ ((σ50 2 2).toInt + (σ50 2 3).toInt ≤ 40) ∧ (∀ k : Nat, k < 40 → 0 ≤ (σ50 6 k).toInt ∧ (σ50 6 k).toInt ≤ 67) := id I54
  have z62 : (σ50 2 0).toInt = (σ 2 0).toInt := (congrArg Int32.toInt (show σ50 2 0 = (σ 2 0) from (f53 0 (by decide))))
  have z63 : (σ50 2 2).toInt = (σ 2 2).toInt := (congrArg Int32.toInt (show σ50 2 2 = (σ 2 2) from (f53 2 (by decide))))
  have z64 : (σ50 2 3).toInt = (σ 2 3).toInt := (congrArg Int32.toInt (show σ50 2 3 = (σ 2 3) from (f53 3 (by decide))))
  rcases h50 with h65 | h66
  · obtain ⟨q70, k67, k68, k69⟩ := h65
    refine lv_pop hx hb dL_law_334 rfl ?_
    refine lv_aload_n hx hb dL_law_335 rfl (lv_at hl 1 rfl) ?_
    refine lv_aload_n hx hb dL_law_336 rfl (lv_at hl 3 rfl) ?_
    refine lv_iload_n hx hb dL_law_337 rfl (lv_at hl 0 rfl) ?_
    refine lv_iconst (v := 1) hx hb dL_law_338 (by decide) ?_
    refine lv_iadd hx hb dL_law_339 ?_
    refine jtopr ex48.symm ?_
    refine va_sld hx hb hX hbl hbA hS (jin tx48 (by omega) (by omega)) dL_law_340 ?_
    have I71 : jI103 σ50 := jI103_fr (congrFun (f52 55 (by decide)) 9) hI103
    have z72 : (σ50 55 9).toInt = (σ 55 9).toInt := (congrArg Int32.toInt (show σ50 55 9 = (σ 55 9) from (congrFun (f52 55 (by decide)) 9)))
    refine jcallV (As := [.int (xs x48.toNatClampNeg)]) (rest := []) ⟨hx, hb, hml, hown, hts⟩ hK hP hA hS hZ (c_X12_set l D cI cL ad zz hJ σ50 τ (xs x48.toNatClampNeg) ((xs x48.toNatClampNeg).toInt) rfl I71) cw_RL_30 (jc_55 cI cL ad σ50 τ) rfl ⟨Nat.le_of_ble_eq_true rfl, Nat.le_of_ble_eq_true rfl⟩ rfl rfl rfl hl.1 rfl (Nat.le_of_ble_eq_true rfl) dL_law_341 ⟨Nat.le_of_ble_eq_true rfl, Nat.le_of_ble_eq_true rfl⟩ (fun r74 σ73 τ73 H locs h73 hP hS => ?_)
    obtain ⟨rfl, f75, f76, I77, h73⟩ := h73
    have i79 : 0 ≤ (σ73 55 9).toInt ∧ (σ73 55 9).toInt ≤ 3 := I77
    rcases h73 with h80 | h81
    · obtain ⟨q85, k82, k83, k84⟩ := h80
      refine lv_pop hx hb dL_law_344 rfl ?_
      refine lv_goto (tgt := 1357) hx hb dL_law_345 (by decide) ?_
      obtain ⟨x86, ex86⟩ : ∃ y : Int32, y = x0 + 6 := ⟨_, rfl⟩
      have tx86 : x86.toInt = x0.toInt + 6 := (jadd ex86 rfl jz_6 (by omega) (by omega)).trans (by omega)
      refine lv_iinc (v := x86) (lv' := [(3, .int x86), (2, .ref (ad 55)), (1, .ref (ad 0)), (0, .ref b)]) hx hb dL_law_1357 hl (k := 0) rfl (by rw [ex86]; rfl) (by decide) rfl (fun ls hl => ?_)
      refine lv_goto (tgt := 18) hx hb dL_law_1360 (by decide) ?_
      have I87 : jI2 σ73 := jI2_fr (congrFun (f75 2 (by decide)) 0) (congrFun (f75 2 (by decide)) 1) (congrFun (f75 2 (by decide)) 2) (congrFun (f75 2 (by decide)) 3) (f75 6 (by decide)) I54
      have I88 : jI9 σ73 := jI9_fr ((congrFun (f75 9 (by decide)) 0).trans (congrFun (f52 9 (by decide)) 0)) ((f75 10 (by decide)).trans (f52 10 (by decide))) ((f75 11 (by decide)).trans (f52 11 (by decide))) hI9
      have I89 : jI12 σ73 := jI12_fr ((congrFun (f75 12 (by decide)) 0).trans (congrFun (f52 12 (by decide)) 0)) ((f75 13 (by decide)).trans (f52 13 (by decide))) hI12
      have I90 : jI16 σ73 := jI16_fr ((congrFun (f75 16 (by decide)) 0).trans (congrFun (f52 16 (by decide)) 0)) ((congrFun (f75 16 (by decide)) 1).trans (congrFun (f52 16 (by decide)) 1)) ((congrFun (f75 16 (by decide)) 2).trans (congrFun (f52 16 (by decide)) 2)) ((f75 17 (by decide)).trans (f52 17 (by decide))) hI16
      have I91 : jI18 σ73 := jI18_fr ((congrFun (f75 18 (by decide)) 0).trans (congrFun (f52 18 (by decide)) 0)) ((f75 19 (by decide)).trans (f52 19 (by decide))) hI18
      have I92 : jI22 σ73 := jI22_fr ((congrFun (f75 22 (by decide)) 0).trans (congrFun (f52 22 (by decide)) 0)) ((f75 23 (by decide)).trans (f52 23 (by decide))) hI22
      have I93 : jI31 σ73 := jI31_fr ((congrFun (f75 31 (by decide)) 8).trans (congrFun (f52 31 (by decide)) 8)) ((congrFun (f75 31 (by decide)) 10).trans (congrFun (f52 31 (by decide)) 10)) ((congrFun (f75 31 (by decide)) 11).trans (congrFun (f52 31 (by decide)) 11)) ((f75 33 (by decide)).trans (f52 33 (by decide))) ((f75 35 (by decide)).trans (f52 35 (by decide))) ((f75 36 (by decide)).trans (f52 36 (by decide))) hI31
      have I94 : jI38 σ73 := jI38_fr ((congrFun (f75 38 (by decide)) 0).trans (congrFun (f52 38 (by decide)) 0)) ((congrFun (f75 38 (by decide)) 1).trans (congrFun (f52 38 (by decide)) 1)) ((f75 39 (by decide)).trans (f52 39 (by decide))) hI38
      have I95 : jI43 σ73 := jI43_fr ((congrFun (f75 43 (by decide)) 8).trans (congrFun (f52 43 (by decide)) 8)) hI43
      have I96 : jI47 σ73 := jI47_fr ((congrFun (f75 47 (by decide)) 0).trans (congrFun (f52 47 (by decide)) 0)) ((f75 48 (by decide)).trans (f52 48 (by decide))) ((f75 49 (by decide)).trans (f52 49 (by decide))) hI47
      have I97 : jI50 σ73 := jI50_fr ((f75 52 (by decide)).trans (f52 52 (by decide))) hI50
      have I98 : jI0 σ73 := jI0_fr ((f75 1 (by decide)).trans (f52 1 (by decide))) hI0
      have I99 : jI26 σ73 := jI26_fr ((congrFun (f75 26 (by decide)) 6).trans (congrFun (f52 26 (by decide)) 6)) hI26
      have I100 : jI101 σ73 := jI101_fr ((f76 4 (by decide)).trans (congrFun (f52 55 (by decide)) 4)) ((f76 5 (by decide)).trans (congrFun (f52 55 (by decide)) 5)) ((f75 56 (by decide)).trans (f52 56 (by decide))) ((f75 57 (by decide)).trans (f52 57 (by decide))) ((f75 58 (by decide)).trans (f52 58 (by decide))) ((f75 59 (by decide)).trans (f52 59 (by decide))) hI101
      have I101 : jI102 σ73 := jI102_fr ((f76 6 (by decide)).trans (congrFun (f52 55 (by decide)) 6)) ((f75 60 (by decide)).trans (f52 60 (by decide))) ((f75 61 (by decide)).trans (f52 61 (by decide))) hI102
      have I102 : jI104 σ73 := jI104_fr ((f76 10 (by decide)).trans (congrFun (f52 55 (by decide)) 10)) ((f76 12 (by decide)).trans (congrFun (f52 55 (by decide)) 12)) ((f76 13 (by decide)).trans (congrFun (f52 55 (by decide)) 13)) ((f75 62 (by decide)).trans (f52 62 (by decide))) ((f75 67 (by decide)).trans (f52 67 (by decide))) hI104
      have I103 : jI105 σ73 := jI105_fr ((f76 15 (by decide)).trans (congrFun (f52 55 (by decide)) 15)) ((f75 65 (by decide)).trans (f52 65 (by decide))) hI105
      have I104 : jI106 σ73 := jI106_fr ((f76 32 (by decide)).trans (congrFun (f52 55 (by decide)) 32)) ((f75 70 (by decide)).trans (f52 70 (by decide))) ((f75 71 (by decide)).trans (f52 71 (by decide))) ((f75 72 (by decide)).trans (f52 72 (by decide))) hI106
      have I105 : jI107 σ73 := jI107_fr ((f76 12 (by decide)).trans (congrFun (f52 55 (by decide)) 12)) ((f76 47 (by decide)).trans (congrFun (f52 55 (by decide)) 47)) ((f75 80 (by decide)).trans (f52 80 (by decide))) hI107
      have I106 : jI109 σ73 := jI109_fr ((f76 50 (by decide)).trans (congrFun (f52 55 (by decide)) 50)) hI109
      have I107 : jI110 σ73 := jI110_fr ((f75 86 (by decide)).trans (f52 86 (by decide))) ((f75 87 (by decide)).trans (f52 87 (by decide))) hI110
      have I108 : jI111 σ73 := jI111_fr ((f75 79 (by decide)).trans (f52 79 (by decide))) hI111
      have I109 : jI119 σ73 := jI119_fr ((f75 68 (by decide)).trans (f52 68 (by decide))) hI119
      have p110 : jKept σ73 := jKept.fr ((f75 75 (by decide)).trans (f52 75 (by decide))) ((f75 76 (by decide)).trans (f52 76 (by decide))) ((f75 77 (by decide)).trans (f52 77 (by decide))) hs_jKept
      have p111 : jBook σ73 := jBook.fr ((f76 47 (by decide)).trans (congrFun (f52 55 (by decide)) 47)) ((f76 10 (by decide)).trans (congrFun (f52 55 (by decide)) 10)) ((f75 81 (by decide)).trans (f52 81 (by decide))) hs_jBook
      have p112 : jNd12 σ73 := jNd12.fr ((congrFun (f75 12 (by decide)) 0).trans (congrFun (f52 12 (by decide)) 0)) ((congrFun (f75 12 (by decide)) 1).trans (congrFun (f52 12 (by decide)) 1)) ((f75 13 (by decide)).trans (f52 13 (by decide))) hs_jNd12
      have p113 : jN67 σ73 := jN67.fr ((f75 24 (by decide)).trans (f52 24 (by decide))) hs_jN67
      have p114 : jBl σ73 := jBl.fr ((congrFun (f75 22 (by decide)) 0).trans (congrFun (f52 22 (by decide)) 0)) ((congrFun (f75 22 (by decide)) 1).trans (congrFun (f52 22 (by decide)) 1)) ((f75 23 (by decide)).trans (f52 23 (by decide))) ((congrFun (f75 26 (by decide)) 6).trans (congrFun (f52 26 (by decide)) 6)) ((congrFun (f75 26 (by decide)) 7).trans (congrFun (f52 26 (by decide)) 7)) ((f75 29 (by decide)).trans (f52 29 (by decide))) ((f75 30 (by decide)).trans (f52 30 (by decide))) hs_jBl
      have p115 : jKb σ73 := jKb.fr ((congrFun (f75 31 (by decide)) 8).trans (congrFun (f52 31 (by decide)) 8)) ((congrFun (f75 31 (by decide)) 11).trans (congrFun (f52 31 (by decide)) 11)) ((f75 32 (by decide)).trans (f52 32 (by decide))) hs_jKb
      have p116 : jTR σ73 := jTR.fr ((f75 64 (by decide)).trans (f52 64 (by decide))) ((f75 65 (by decide)).trans (f52 65 (by decide))) hs_jTR
      have p117 : jKh σ73 := jKh.fr ((congrFun (f75 31 (by decide)) 8).trans (congrFun (f52 31 (by decide)) 8)) ((f75 32 (by decide)).trans (f52 32 (by decide))) ((f75 36 (by decide)).trans (f52 36 (by decide))) ((f75 37 (by decide)).trans (f52 37 (by decide))) hs_jKh
      have p118 : jKg σ73 := jKg.fr ((congrFun (f75 31 (by decide)) 8).trans (congrFun (f52 31 (by decide)) 8)) ((congrFun (f75 31 (by decide)) 9).trans (congrFun (f52 31 (by decide)) 9)) ((congrFun (f75 31 (by decide)) 11).trans (congrFun (f52 31 (by decide)) 11)) ((congrFun (f75 31 (by decide)) 12).trans (congrFun (f52 31 (by decide)) 12)) ((f75 32 (by decide)).trans (f52 32 (by decide))) ((f75 33 (by decide)).trans (f52 33 (by decide))) hs_jKg
      have z119 : (σ73 2 0).toInt = (σ 2 0).toInt := (congrArg Int32.toInt (show σ73 2 0 = (σ 2 0) from ((congrFun (f75 2 (by decide)) 0).trans (f53 0 (by decide)))))
      have z120 : (σ73 55 6).toInt = (σ 55 6).toInt := (congrArg Int32.toInt (show σ73 55 6 = (σ 55 6) from ((f76 6 (by decide)).trans (congrFun (f52 55 (by decide)) 6))))
      have z121 : (σ73 2 2).toInt = (σ 2 2).toInt := (congrArg Int32.toInt (show σ73 2 2 = (σ 2 2) from ((congrFun (f75 2 (by decide)) 2).trans (f53 2 (by decide)))))
      have z122 : (σ73 55 5).toInt = (σ 55 5).toInt := (congrArg Int32.toInt (show σ73 55 5 = (σ 55 5) from ((f76 5 (by decide)).trans (congrFun (f52 55 (by decide)) 5))))
      have z123 : (σ73 2 3).toInt = (σ 2 3).toInt := (congrArg Int32.toInt (show σ73 2 3 = (σ 2 3) from ((congrFun (f75 2 (by decide)) 3).trans (f53 3 (by decide)))))
      have z124 : (σ73 55 4).toInt = (σ 55 4).toInt := (congrArg Int32.toInt (show σ73 55 4 = (σ 55 4) from ((f76 4 (by decide)).trans (congrFun (f52 55 (by decide)) 4))))
      have z125 : (σ73 9 0).toInt = (σ 9 0).toInt := (congrArg Int32.toInt (show σ73 9 0 = (σ 9 0) from ((congrFun (f75 9 (by decide)) 0).trans (congrFun (f52 9 (by decide)) 0))))
      have z126 : (σ73 55 15).toInt = (σ 55 15).toInt := (congrArg Int32.toInt (show σ73 55 15 = (σ 55 15) from ((f76 15 (by decide)).trans (congrFun (f52 55 (by decide)) 15))))
      have z127 : (σ73 16 0).toInt = (σ 16 0).toInt := (congrArg Int32.toInt (show σ73 16 0 = (σ 16 0) from ((congrFun (f75 16 (by decide)) 0).trans (congrFun (f52 16 (by decide)) 0))))
      have z128 : (σ73 55 10).toInt = (σ 55 10).toInt := (congrArg Int32.toInt (show σ73 55 10 = (σ 55 10) from ((f76 10 (by decide)).trans (congrFun (f52 55 (by decide)) 10))))
      have z129 : (σ73 16 1).toInt = (σ 16 1).toInt := (congrArg Int32.toInt (show σ73 16 1 = (σ 16 1) from ((congrFun (f75 16 (by decide)) 1).trans (congrFun (f52 16 (by decide)) 1))))
      have z130 : (σ73 55 12).toInt = (σ 55 12).toInt := (congrArg Int32.toInt (show σ73 55 12 = (σ 55 12) from ((f76 12 (by decide)).trans (congrFun (f52 55 (by decide)) 12))))
      have z131 : (σ73 16 2).toInt = (σ 16 2).toInt := (congrArg Int32.toInt (show σ73 16 2 = (σ 16 2) from ((congrFun (f75 16 (by decide)) 2).trans (congrFun (f52 16 (by decide)) 2))))
      have z132 : (σ73 55 13).toInt = (σ 55 13).toInt := (congrArg Int32.toInt (show σ73 55 13 = (σ 55 13) from ((f76 13 (by decide)).trans (congrFun (f52 55 (by decide)) 13))))
      have z133 : (σ73 38 0).toInt = (σ 38 0).toInt := (congrArg Int32.toInt (show σ73 38 0 = (σ 38 0) from ((congrFun (f75 38 (by decide)) 0).trans (congrFun (f52 38 (by decide)) 0))))
      have z134 : (σ73 55 32).toInt = (σ 55 32).toInt := (congrArg Int32.toInt (show σ73 55 32 = (σ 55 32) from ((f76 32 (by decide)).trans (congrFun (f52 55 (by decide)) 32))))
      have z135 : (σ73 38 1).toInt = (σ 38 1).toInt := (congrArg Int32.toInt (show σ73 38 1 = (σ 38 1) from ((congrFun (f75 38 (by decide)) 1).trans (congrFun (f52 38 (by decide)) 1))))
      have z136 : (σ73 55 55).toInt = (σ 55 55).toInt := (congrArg Int32.toInt (show σ73 55 55 = (σ 55 55) from ((f76 55 (by decide)).trans (congrFun (f52 55 (by decide)) 55))))
      have z137 : (σ73 47 0).toInt = (σ 47 0).toInt := (congrArg Int32.toInt (show σ73 47 0 = (σ 47 0) from ((congrFun (f75 47 (by decide)) 0).trans (congrFun (f52 47 (by decide)) 0))))
      have z138 : (σ73 55 47).toInt = (σ 55 47).toInt := (congrArg Int32.toInt (show σ73 55 47 = (σ 55 47) from ((f76 47 (by decide)).trans (congrFun (f52 55 (by decide)) 47))))
      have z139 : (σ73 55 30).toInt = (σ 55 30).toInt := (congrArg Int32.toInt (show σ73 55 30 = (σ 55 30) from ((f76 30 (by decide)).trans (congrFun (f52 55 (by decide)) 30))))
      have z140 : (σ73 55 31).toInt = (σ 55 31).toInt := (congrArg Int32.toInt (show σ73 55 31 = (σ 55 31) from ((f76 31 (by decide)).trans (congrFun (f52 55 (by decide)) 31))))
      have z141 : (σ73 2 1).toInt = (σ50 2 1).toInt := (congrArg Int32.toInt (show σ73 2 1 = (σ50 2 1) from (congrFun (f75 2 (by decide)) 1)))
      have z142 : (σ73 26 6).toInt = (σ 26 6).toInt := (congrArg Int32.toInt (show σ73 26 6 = (σ 26 6) from ((congrFun (f75 26 (by decide)) 6).trans (congrFun (f52 26 (by decide)) 6))))
      have z144 : (σ73 18 0).toInt = (σ 18 0).toInt := (congrArg Int32.toInt (show σ73 18 0 = (σ 18 0) from ((congrFun (f75 18 (by decide)) 0).trans (congrFun (f52 18 (by decide)) 0))))
      have z145 : (σ73 22 0).toInt = (σ 22 0).toInt := (congrArg Int32.toInt (show σ73 22 0 = (σ 22 0) from ((congrFun (f75 22 (by decide)) 0).trans (congrFun (f52 22 (by decide)) 0))))
      exact ih x86 σ73 τ _ _ ls (by have h9 := tx86; omega) ⟨I87, I88, I89, I90, I91, I92, I93, I94, I95, I96, I97, I98, I99, I100, I101, I77, I102, I103, I104, I105, I106, I107, I108, I109, p110, p111, p112, p113, p114, p115, p116, p117, p118, (by omega), (by omega), (by omega), (by omega), (by omega), (by omega), (by omega), (by omega), (by omega), (by omega), (by omega), (by omega), (by omega), (by have h9 := tx86; omega), (show jNumP (σ73 3) (σ73 56) (σ73 6) (σ73 57) (σ73 7) (σ73 58) (σ73 8) (σ73 59) (σ73 55 6).toInt (σ73 55 4).toInt by rw [show σ73 3 = σ 3 from ((f75 3 (by decide)).trans (f52 3 (by decide))), show σ73 56 = σ 56 from ((f75 56 (by decide)).trans (f52 56 (by decide))), show σ73 6 = σ 6 from ((f75 6 (by decide)).trans (f52 6 (by decide))), show σ73 57 = σ 57 from ((f75 57 (by decide)).trans (f52 57 (by decide))), show σ73 7 = σ 7 from ((f75 7 (by decide)).trans (f52 7 (by decide))), show σ73 58 = σ 58 from ((f75 58 (by decide)).trans (f52 58 (by decide))), show σ73 8 = σ 8 from ((f75 8 (by decide)).trans (f52 8 (by decide))), show σ73 59 = σ 59 from ((f75 59 (by decide)).trans (f52 59 (by decide))), show (σ73 55 6).toInt = (σ 55 6).toInt from by omega, show (σ73 55 4).toInt = (σ 55 4).toInt from by omega]; exact hr0), (show jOvP (σ73 56) (σ73 57) (σ73 58) (σ73 59) (σ73 55 4).toInt by rw [show σ73 56 = σ 56 from ((f75 56 (by decide)).trans (f52 56 (by decide))), show σ73 57 = σ 57 from ((f75 57 (by decide)).trans (f52 57 (by decide))), show σ73 58 = σ 58 from ((f75 58 (by decide)).trans (f52 58 (by decide))), show σ73 59 = σ 59 from ((f75 59 (by decide)).trans (f52 59 (by decide))), show (σ73 55 4).toInt = (σ 55 4).toInt from by omega]; exact hr1), (show jTp (σ73 10) (σ73 63) (σ73 55 15).toInt by rw [show σ73 10 = σ 10 from ((f75 10 (by decide)).trans (f52 10 (by decide))), show σ73 63 = σ 63 from ((f75 63 (by decide)).trans (f52 63 (by decide)))]; exact hr2.le (by omega)), (show jSo (σ73 17) (σ73 62) (σ73 16 0).toInt by rw [show σ73 17 = σ 17 from ((f75 17 (by decide)).trans (f52 17 (by decide))), show σ73 62 = σ 62 from ((f75 62 (by decide)).trans (f52 62 (by decide))), show (σ73 16 0).toInt = (σ 16 0).toInt from by omega]; exact hr3), (show jShP (σ73 51) (σ73 52) (σ73 53) (σ73 86) (σ73 87) (σ73 55 32).toInt by rw [show σ73 51 = σ 51 from ((f75 51 (by decide)).trans (f52 51 (by decide))), show σ73 52 = σ 52 from ((f75 52 (by decide)).trans (f52 52 (by decide))), show σ73 53 = σ 53 from ((f75 53 (by decide)).trans (f52 53 (by decide))), show σ73 86 = σ 86 from ((f75 86 (by decide)).trans (f52 86 (by decide))), show σ73 87 = σ 87 from ((f75 87 (by decide)).trans (f52 87 (by decide)))]; exact (hr4.up (by omega) (by omega))), (show jEl (σ73 51) (σ73 52) (τ 54) (τ 88) by rw [show σ73 51 = σ 51 from ((f75 51 (by decide)).trans (f52 51 (by decide))), show σ73 52 = σ 52 from ((f75 52 (by decide)).trans (f52 52 (by decide)))]; exact hr5), (show jByP (σ73 51) (σ73 52) (τ 54) by rw [show σ73 51 = σ 51 from ((f75 51 (by decide)).trans (f52 51 (by decide))), show σ73 52 = σ 52 from ((f75 52 (by decide)).trans (f52 52 (by decide)))]; exact hr6), (show jBk (σ73 48) (σ73 80) (σ73 49) (σ73 81) (σ73 55 47).toInt by rw [show σ73 48 = σ 48 from ((f75 48 (by decide)).trans (f52 48 (by decide))), show σ73 49 = σ 49 from ((f75 49 (by decide)).trans (f52 49 (by decide))), show σ73 80 = σ 80 from ((f75 80 (by decide)).trans (f52 80 (by decide))), show σ73 81 = σ 81 from ((f75 81 (by decide)).trans (f52 81 (by decide))), show (σ73 55 47).toInt = (σ 55 47).toInt from by omega]; exact hr7), (show jKd (σ73 39) (σ73 70) (σ73 55 32).toInt by rw [show σ73 39 = σ 39 from ((f75 39 (by decide)).trans (f52 39 (by decide))), show σ73 70 = σ 70 from ((f75 70 (by decide)).trans (f52 70 (by decide))), show (σ73 55 32).toInt = (σ 55 32).toInt from by omega]; exact hr8), (show jTt (σ73 42) (σ73 85) (σ73 55 55).toInt by rw [show σ73 42 = σ 42 from ((f75 42 (by decide)).trans (f52 42 (by decide))), show σ73 85 = σ 85 from ((f75 85 (by decide)).trans (f52 85 (by decide))), show (σ73 55 55).toInt = (σ 55 55).toInt from by omega]; exact hr9), (fun k hk => by rw [show σ73 4 = σ 4 from ((f75 4 (by decide)).trans (f52 4 (by decide))), show σ73 5 = σ 5 from ((f75 5 (by decide)).trans (f52 5 (by decide))), show σ73 60 = σ 60 from ((f75 60 (by decide)).trans (f52 60 (by decide))), show σ73 61 = σ 61 from ((f75 61 (by decide)).trans (f52 61 (by decide)))]; exact hr10 k (by omega)), (fun nm => by rw [show σ73 19 = σ 19 from ((f75 19 (by decide)).trans (f52 19 (by decide))), show σ73 64 = σ 64 from ((f75 64 (by decide)).trans (f52 64 (by decide))), show σ73 65 = σ 65 from ((f75 65 (by decide)).trans (f52 65 (by decide))), show (σ73 18 0).toInt = (σ 18 0).toInt from by omega]; exact hr11 nm), (fun nm => by rw [show σ73 23 = σ 23 from ((f75 23 (by decide)).trans (f52 23 (by decide))), show σ73 64 = σ 64 from ((f75 64 (by decide)).trans (f52 64 (by decide))), show σ73 65 = σ 65 from ((f75 65 (by decide)).trans (f52 65 (by decide))), show (σ73 22 0).toInt = (σ 22 0).toInt from by omega]; exact hr12 nm)⟩ hP hS (lv_sub hl [0, 1, 2, 3] rfl)
    · obtain ⟨q148, k146, k147⟩ := h81
      exact absurd (by omega : False) id
  · obtain ⟨q151, k149, k150⟩ := h66
    have q151 := q151.symm
    subst q151
    refine lv_pop hx hb dL_law_334 rfl ?_
    refine lv_aload_n hx hb dL_law_335 rfl (lv_at hl 1 rfl) ?_
    refine lv_aload_n hx hb dL_law_336 rfl (lv_at hl 3 rfl) ?_
    refine lv_iload_n hx hb dL_law_337 rfl (lv_at hl 0 rfl) ?_
    refine lv_iconst (v := 1) hx hb dL_law_338 (by decide) ?_
    refine lv_iadd hx hb dL_law_339 ?_
    refine jtopr ex48.symm ?_
    refine va_sld hx hb hX hbl hbA hS (jin tx48 (by omega) (by omega)) dL_law_340 ?_
    have I152 : jI103 σ50 := jI103_fr (congrFun (f52 55 (by decide)) 9) hI103
    have z153 : (σ50 55 9).toInt = (σ 55 9).toInt := (congrArg Int32.toInt (show σ50 55 9 = (σ 55 9) from (congrFun (f52 55 (by decide)) 9)))
    refine jcallV (As := [.int (xs x48.toNatClampNeg)]) (rest := []) ⟨hx, hb, hml, hown, hts⟩ hK hP hA hS hZ (c_X12_set l D cI cL ad zz hJ σ50 τ (xs x48.toNatClampNeg) ((xs x48.toNatClampNeg).toInt) rfl I152) cw_RL_30 (jc_55 cI cL ad σ50 τ) rfl ⟨Nat.le_of_ble_eq_true rfl, Nat.le_of_ble_eq_true rfl⟩ rfl rfl rfl hl.1 rfl (Nat.le_of_ble_eq_true rfl) dL_law_341 ⟨Nat.le_of_ble_eq_true rfl, Nat.le_of_ble_eq_true rfl⟩ (fun r155 σ154 τ154 H locs h154 hP hS => ?_)
    obtain ⟨rfl, f156, f157, I158, h154⟩ := h154
    have i160 : 0 ≤ (σ154 55 9).toInt ∧ (σ154 55 9).toInt ≤ 3 := I158
    rcases h154 with h161 | h162
    · obtain ⟨q166, k163, k164, k165⟩ := h161
      exact absurd (by omega : False) id
    · obtain ⟨q169, k167, k168⟩ := h162
      have q169 := q169.symm
      subst q169
      refine lv_pop hx hb dL_law_344 rfl ?_
      refine lv_goto (tgt := 1357) hx hb dL_law_345 (by decide) ?_
      obtain ⟨x170, ex170⟩ : ∃ y : Int32, y = x0 + 6 := ⟨_, rfl⟩
      have tx170 : x170.toInt = x0.toInt + 6 := (jadd ex170 rfl jz_6 (by omega) (by omega)).trans (by omega)
      refine lv_iinc (v := x170) (lv' := [(3, .int x170), (2, .ref (ad 55)), (1, .ref (ad 0)), (0, .ref b)]) hx hb dL_law_1357 hl (k := 0) rfl (by rw [ex170]; rfl) (by decide) rfl (fun ls hl => ?_)
      refine lv_goto (tgt := 18) hx hb dL_law_1360 (by decide) ?_
      have I171 : jI2 σ154 := jI2_fr (congrFun (f156 2 (by decide)) 0) (congrFun (f156 2 (by decide)) 1) (congrFun (f156 2 (by decide)) 2) (congrFun (f156 2 (by decide)) 3) (f156 6 (by decide)) I54
      have I172 : jI9 σ154 := jI9_fr ((congrFun (f156 9 (by decide)) 0).trans (congrFun (f52 9 (by decide)) 0)) ((f156 10 (by decide)).trans (f52 10 (by decide))) ((f156 11 (by decide)).trans (f52 11 (by decide))) hI9
      have I173 : jI12 σ154 := jI12_fr ((congrFun (f156 12 (by decide)) 0).trans (congrFun (f52 12 (by decide)) 0)) ((f156 13 (by decide)).trans (f52 13 (by decide))) hI12
      have I174 : jI16 σ154 := jI16_fr ((congrFun (f156 16 (by decide)) 0).trans (congrFun (f52 16 (by decide)) 0)) ((congrFun (f156 16 (by decide)) 1).trans (congrFun (f52 16 (by decide)) 1)) ((congrFun (f156 16 (by decide)) 2).trans (congrFun (f52 16 (by decide)) 2)) ((f156 17 (by decide)).trans (f52 17 (by decide))) hI16
      have I175 : jI18 σ154 := jI18_fr ((congrFun (f156 18 (by decide)) 0).trans (congrFun (f52 18 (by decide)) 0)) ((f156 19 (by decide)).trans (f52 19 (by decide))) hI18
      have I176 : jI22 σ154 := jI22_fr ((congrFun (f156 22 (by decide)) 0).trans (congrFun (f52 22 (by decide)) 0)) ((f156 23 (by decide)).trans (f52 23 (by decide))) hI22
      have I177 : jI31 σ154 := jI31_fr ((congrFun (f156 31 (by decide)) 8).trans (congrFun (f52 31 (by decide)) 8)) ((congrFun (f156 31 (by decide)) 10).trans (congrFun (f52 31 (by decide)) 10)) ((congrFun (f156 31 (by decide)) 11).trans (congrFun (f52 31 (by decide)) 11)) ((f156 33 (by decide)).trans (f52 33 (by decide))) ((f156 35 (by decide)).trans (f52 35 (by decide))) ((f156 36 (by decide)).trans (f52 36 (by decide))) hI31
      have I178 : jI38 σ154 := jI38_fr ((congrFun (f156 38 (by decide)) 0).trans (congrFun (f52 38 (by decide)) 0)) ((congrFun (f156 38 (by decide)) 1).trans (congrFun (f52 38 (by decide)) 1)) ((f156 39 (by decide)).trans (f52 39 (by decide))) hI38
      have I179 : jI43 σ154 := jI43_fr ((congrFun (f156 43 (by decide)) 8).trans (congrFun (f52 43 (by decide)) 8)) hI43
      have I180 : jI47 σ154 := jI47_fr ((congrFun (f156 47 (by decide)) 0).trans (congrFun (f52 47 (by decide)) 0)) ((f156 48 (by decide)).trans (f52 48 (by decide))) ((f156 49 (by decide)).trans (f52 49 (by decide))) hI47
      have I181 : jI50 σ154 := jI50_fr ((f156 52 (by decide)).trans (f52 52 (by decide))) hI50
      have I182 : jI0 σ154 := jI0_fr ((f156 1 (by decide)).trans (f52 1 (by decide))) hI0
      have I183 : jI26 σ154 := jI26_fr ((congrFun (f156 26 (by decide)) 6).trans (congrFun (f52 26 (by decide)) 6)) hI26
      have I184 : jI101 σ154 := jI101_fr ((f157 4 (by decide)).trans (congrFun (f52 55 (by decide)) 4)) ((f157 5 (by decide)).trans (congrFun (f52 55 (by decide)) 5)) ((f156 56 (by decide)).trans (f52 56 (by decide))) ((f156 57 (by decide)).trans (f52 57 (by decide))) ((f156 58 (by decide)).trans (f52 58 (by decide))) ((f156 59 (by decide)).trans (f52 59 (by decide))) hI101
      have I185 : jI102 σ154 := jI102_fr ((f157 6 (by decide)).trans (congrFun (f52 55 (by decide)) 6)) ((f156 60 (by decide)).trans (f52 60 (by decide))) ((f156 61 (by decide)).trans (f52 61 (by decide))) hI102
      have I186 : jI104 σ154 := jI104_fr ((f157 10 (by decide)).trans (congrFun (f52 55 (by decide)) 10)) ((f157 12 (by decide)).trans (congrFun (f52 55 (by decide)) 12)) ((f157 13 (by decide)).trans (congrFun (f52 55 (by decide)) 13)) ((f156 62 (by decide)).trans (f52 62 (by decide))) ((f156 67 (by decide)).trans (f52 67 (by decide))) hI104
      have I187 : jI105 σ154 := jI105_fr ((f157 15 (by decide)).trans (congrFun (f52 55 (by decide)) 15)) ((f156 65 (by decide)).trans (f52 65 (by decide))) hI105
      have I188 : jI106 σ154 := jI106_fr ((f157 32 (by decide)).trans (congrFun (f52 55 (by decide)) 32)) ((f156 70 (by decide)).trans (f52 70 (by decide))) ((f156 71 (by decide)).trans (f52 71 (by decide))) ((f156 72 (by decide)).trans (f52 72 (by decide))) hI106
      have I189 : jI107 σ154 := jI107_fr ((f157 12 (by decide)).trans (congrFun (f52 55 (by decide)) 12)) ((f157 47 (by decide)).trans (congrFun (f52 55 (by decide)) 47)) ((f156 80 (by decide)).trans (f52 80 (by decide))) hI107
      have I190 : jI109 σ154 := jI109_fr ((f157 50 (by decide)).trans (congrFun (f52 55 (by decide)) 50)) hI109
      have I191 : jI110 σ154 := jI110_fr ((f156 86 (by decide)).trans (f52 86 (by decide))) ((f156 87 (by decide)).trans (f52 87 (by decide))) hI110
      have I192 : jI111 σ154 := jI111_fr ((f156 79 (by decide)).trans (f52 79 (by decide))) hI111
      have I193 : jI119 σ154 := jI119_fr ((f156 68 (by decide)).trans (f52 68 (by decide))) hI119
      have p194 : jKept σ154 := jKept.fr ((f156 75 (by decide)).trans (f52 75 (by decide))) ((f156 76 (by decide)).trans (f52 76 (by decide))) ((f156 77 (by decide)).trans (f52 77 (by decide))) hs_jKept
      have p195 : jBook σ154 := jBook.fr ((f157 47 (by decide)).trans (congrFun (f52 55 (by decide)) 47)) ((f157 10 (by decide)).trans (congrFun (f52 55 (by decide)) 10)) ((f156 81 (by decide)).trans (f52 81 (by decide))) hs_jBook
      have p196 : jNd12 σ154 := jNd12.fr ((congrFun (f156 12 (by decide)) 0).trans (congrFun (f52 12 (by decide)) 0)) ((congrFun (f156 12 (by decide)) 1).trans (congrFun (f52 12 (by decide)) 1)) ((f156 13 (by decide)).trans (f52 13 (by decide))) hs_jNd12
      have p197 : jN67 σ154 := jN67.fr ((f156 24 (by decide)).trans (f52 24 (by decide))) hs_jN67
      have p198 : jBl σ154 := jBl.fr ((congrFun (f156 22 (by decide)) 0).trans (congrFun (f52 22 (by decide)) 0)) ((congrFun (f156 22 (by decide)) 1).trans (congrFun (f52 22 (by decide)) 1)) ((f156 23 (by decide)).trans (f52 23 (by decide))) ((congrFun (f156 26 (by decide)) 6).trans (congrFun (f52 26 (by decide)) 6)) ((congrFun (f156 26 (by decide)) 7).trans (congrFun (f52 26 (by decide)) 7)) ((f156 29 (by decide)).trans (f52 29 (by decide))) ((f156 30 (by decide)).trans (f52 30 (by decide))) hs_jBl
      have p199 : jKb σ154 := jKb.fr ((congrFun (f156 31 (by decide)) 8).trans (congrFun (f52 31 (by decide)) 8)) ((congrFun (f156 31 (by decide)) 11).trans (congrFun (f52 31 (by decide)) 11)) ((f156 32 (by decide)).trans (f52 32 (by decide))) hs_jKb
      have p200 : jTR σ154 := jTR.fr ((f156 64 (by decide)).trans (f52 64 (by decide))) ((f156 65 (by decide)).trans (f52 65 (by decide))) hs_jTR
      have p201 : jKh σ154 := jKh.fr ((congrFun (f156 31 (by decide)) 8).trans (congrFun (f52 31 (by decide)) 8)) ((f156 32 (by decide)).trans (f52 32 (by decide))) ((f156 36 (by decide)).trans (f52 36 (by decide))) ((f156 37 (by decide)).trans (f52 37 (by decide))) hs_jKh
      have p202 : jKg σ154 := jKg.fr ((congrFun (f156 31 (by decide)) 8).trans (congrFun (f52 31 (by decide)) 8)) ((congrFun (f156 31 (by decide)) 9).trans (congrFun (f52 31 (by decide)) 9)) ((congrFun (f156 31 (by decide)) 11).trans (congrFun (f52 31 (by decide)) 11)) ((congrFun (f156 31 (by decide)) 12).trans (congrFun (f52 31 (by decide)) 12)) ((f156 32 (by decide)).trans (f52 32 (by decide))) ((f156 33 (by decide)).trans (f52 33 (by decide))) hs_jKg
      have z203 : (σ154 2 0).toInt = (σ 2 0).toInt := (congrArg Int32.toInt (show σ154 2 0 = (σ 2 0) from ((congrFun (f156 2 (by decide)) 0).trans (f53 0 (by decide)))))
      have z204 : (σ154 55 6).toInt = (σ 55 6).toInt := (congrArg Int32.toInt (show σ154 55 6 = (σ 55 6) from ((f157 6 (by decide)).trans (congrFun (f52 55 (by decide)) 6))))
      have z205 : (σ154 2 2).toInt = (σ 2 2).toInt := (congrArg Int32.toInt (show σ154 2 2 = (σ 2 2) from ((congrFun (f156 2 (by decide)) 2).trans (f53 2 (by decide)))))
      have z206 : (σ154 55 5).toInt = (σ 55 5).toInt := (congrArg Int32.toInt (show σ154 55 5 = (σ 55 5) from ((f157 5 (by decide)).trans (congrFun (f52 55 (by decide)) 5))))
      have z207 : (σ154 2 3).toInt = (σ 2 3).toInt := (congrArg Int32.toInt (show σ154 2 3 = (σ 2 3) from ((congrFun (f156 2 (by decide)) 3).trans (f53 3 (by decide)))))
      have z208 : (σ154 55 4).toInt = (σ 55 4).toInt := (congrArg Int32.toInt (show σ154 55 4 = (σ 55 4) from ((f157 4 (by decide)).trans (congrFun (f52 55 (by decide)) 4))))
      have z209 : (σ154 9 0).toInt = (σ 9 0).toInt := (congrArg Int32.toInt (show σ154 9 0 = (σ 9 0) from ((congrFun (f156 9 (by decide)) 0).trans (congrFun (f52 9 (by decide)) 0))))
      have z210 : (σ154 55 15).toInt = (σ 55 15).toInt := (congrArg Int32.toInt (show σ154 55 15 = (σ 55 15) from ((f157 15 (by decide)).trans (congrFun (f52 55 (by decide)) 15))))
      have z211 : (σ154 16 0).toInt = (σ 16 0).toInt := (congrArg Int32.toInt (show σ154 16 0 = (σ 16 0) from ((congrFun (f156 16 (by decide)) 0).trans (congrFun (f52 16 (by decide)) 0))))
      have z212 : (σ154 55 10).toInt = (σ 55 10).toInt := (congrArg Int32.toInt (show σ154 55 10 = (σ 55 10) from ((f157 10 (by decide)).trans (congrFun (f52 55 (by decide)) 10))))
      have z213 : (σ154 16 1).toInt = (σ 16 1).toInt := (congrArg Int32.toInt (show σ154 16 1 = (σ 16 1) from ((congrFun (f156 16 (by decide)) 1).trans (congrFun (f52 16 (by decide)) 1))))
      have z214 : (σ154 55 12).toInt = (σ 55 12).toInt := (congrArg Int32.toInt (show σ154 55 12 = (σ 55 12) from ((f157 12 (by decide)).trans (congrFun (f52 55 (by decide)) 12))))
      have z215 : (σ154 16 2).toInt = (σ 16 2).toInt := (congrArg Int32.toInt (show σ154 16 2 = (σ 16 2) from ((congrFun (f156 16 (by decide)) 2).trans (congrFun (f52 16 (by decide)) 2))))
      have z216 : (σ154 55 13).toInt = (σ 55 13).toInt := (congrArg Int32.toInt (show σ154 55 13 = (σ 55 13) from ((f157 13 (by decide)).trans (congrFun (f52 55 (by decide)) 13))))
      have z217 : (σ154 38 0).toInt = (σ 38 0).toInt := (congrArg Int32.toInt (show σ154 38 0 = (σ 38 0) from ((congrFun (f156 38 (by decide)) 0).trans (congrFun (f52 38 (by decide)) 0))))
      have z218 : (σ154 55 32).toInt = (σ 55 32).toInt := (congrArg Int32.toInt (show σ154 55 32 = (σ 55 32) from ((f157 32 (by decide)).trans (congrFun (f52 55 (by decide)) 32))))
      have z219 : (σ154 38 1).toInt = (σ 38 1).toInt := (congrArg Int32.toInt (show σ154 38 1 = (σ 38 1) from ((congrFun (f156 38 (by decide)) 1).trans (congrFun (f52 38 (by decide)) 1))))
      have z220 : (σ154 55 55).toInt = (σ 55 55).toInt := (congrArg Int32.toInt (show σ154 55 55 = (σ 55 55) from ((f157 55 (by decide)).trans (congrFun (f52 55 (by decide)) 55))))
      have z221 : (σ154 47 0).toInt = (σ 47 0).toInt := (congrArg Int32.toInt (show σ154 47 0 = (σ 47 0) from ((congrFun (f156 47 (by decide)) 0).trans (congrFun (f52 47 (by decide)) 0))))
      have z222 : (σ154 55 47).toInt = (σ 55 47).toInt := (congrArg Int32.toInt (show σ154 55 47 = (σ 55 47) from ((f157 47 (by decide)).trans (congrFun (f52 55 (by decide)) 47))))
      have z223 : (σ154 55 30).toInt = (σ 55 30).toInt := (congrArg Int32.toInt (show σ154 55 30 = (σ 55 30) from ((f157 30 (by decide)).trans (congrFun (f52 55 (by decide)) 30))))
      have z224 : (σ154 55 31).toInt = (σ 55 31).toInt := (congrArg Int32.toInt (show σ154 55 31 = (σ 55 31) from ((f157 31 (by decide)).trans (congrFun (f52 55 (by decide)) 31))))
      have z225 : (σ154 2 1).toInt = (σ50 2 1).toInt := (congrArg Int32.toInt (show σ154 2 1 = (σ50 2 1) from (congrFun (f156 2 (by decide)) 1)))
      have z226 : (σ154 26 6).toInt = (σ 26 6).toInt := (congrArg Int32.toInt (show σ154 26 6 = (σ 26 6) from ((congrFun (f156 26 (by decide)) 6).trans (congrFun (f52 26 (by decide)) 6))))
      have z228 : (σ154 18 0).toInt = (σ 18 0).toInt := (congrArg Int32.toInt (show σ154 18 0 = (σ 18 0) from ((congrFun (f156 18 (by decide)) 0).trans (congrFun (f52 18 (by decide)) 0))))
      have z229 : (σ154 22 0).toInt = (σ 22 0).toInt := (congrArg Int32.toInt (show σ154 22 0 = (σ 22 0) from ((congrFun (f156 22 (by decide)) 0).trans (congrFun (f52 22 (by decide)) 0))))
      exact ih x170 σ154 τ _ _ ls (by have h9 := tx170; omega) ⟨I171, I172, I173, I174, I175, I176, I177, I178, I179, I180, I181, I182, I183, I184, I185, I158, I186, I187, I188, I189, I190, I191, I192, I193, p194, p195, p196, p197, p198, p199, p200, p201, p202, (by omega), (by omega), (by omega), (by omega), (by omega), (by omega), (by omega), (by omega), (by omega), (by omega), (by omega), (by omega), (by omega), (by have h9 := tx170; omega), (show jNumP (σ154 3) (σ154 56) (σ154 6) (σ154 57) (σ154 7) (σ154 58) (σ154 8) (σ154 59) (σ154 55 6).toInt (σ154 55 4).toInt by rw [show σ154 3 = σ 3 from ((f156 3 (by decide)).trans (f52 3 (by decide))), show σ154 56 = σ 56 from ((f156 56 (by decide)).trans (f52 56 (by decide))), show σ154 6 = σ 6 from ((f156 6 (by decide)).trans (f52 6 (by decide))), show σ154 57 = σ 57 from ((f156 57 (by decide)).trans (f52 57 (by decide))), show σ154 7 = σ 7 from ((f156 7 (by decide)).trans (f52 7 (by decide))), show σ154 58 = σ 58 from ((f156 58 (by decide)).trans (f52 58 (by decide))), show σ154 8 = σ 8 from ((f156 8 (by decide)).trans (f52 8 (by decide))), show σ154 59 = σ 59 from ((f156 59 (by decide)).trans (f52 59 (by decide))), show (σ154 55 6).toInt = (σ 55 6).toInt from by omega, show (σ154 55 4).toInt = (σ 55 4).toInt from by omega]; exact hr0), (show jOvP (σ154 56) (σ154 57) (σ154 58) (σ154 59) (σ154 55 4).toInt by rw [show σ154 56 = σ 56 from ((f156 56 (by decide)).trans (f52 56 (by decide))), show σ154 57 = σ 57 from ((f156 57 (by decide)).trans (f52 57 (by decide))), show σ154 58 = σ 58 from ((f156 58 (by decide)).trans (f52 58 (by decide))), show σ154 59 = σ 59 from ((f156 59 (by decide)).trans (f52 59 (by decide))), show (σ154 55 4).toInt = (σ 55 4).toInt from by omega]; exact hr1), (show jTp (σ154 10) (σ154 63) (σ154 55 15).toInt by rw [show σ154 10 = σ 10 from ((f156 10 (by decide)).trans (f52 10 (by decide))), show σ154 63 = σ 63 from ((f156 63 (by decide)).trans (f52 63 (by decide)))]; exact hr2.le (by omega)), (show jSo (σ154 17) (σ154 62) (σ154 16 0).toInt by rw [show σ154 17 = σ 17 from ((f156 17 (by decide)).trans (f52 17 (by decide))), show σ154 62 = σ 62 from ((f156 62 (by decide)).trans (f52 62 (by decide))), show (σ154 16 0).toInt = (σ 16 0).toInt from by omega]; exact hr3), (show jShP (σ154 51) (σ154 52) (σ154 53) (σ154 86) (σ154 87) (σ154 55 32).toInt by rw [show σ154 51 = σ 51 from ((f156 51 (by decide)).trans (f52 51 (by decide))), show σ154 52 = σ 52 from ((f156 52 (by decide)).trans (f52 52 (by decide))), show σ154 53 = σ 53 from ((f156 53 (by decide)).trans (f52 53 (by decide))), show σ154 86 = σ 86 from ((f156 86 (by decide)).trans (f52 86 (by decide))), show σ154 87 = σ 87 from ((f156 87 (by decide)).trans (f52 87 (by decide)))]; exact (hr4.up (by omega) (by omega))), (show jEl (σ154 51) (σ154 52) (τ 54) (τ 88) by rw [show σ154 51 = σ 51 from ((f156 51 (by decide)).trans (f52 51 (by decide))), show σ154 52 = σ 52 from ((f156 52 (by decide)).trans (f52 52 (by decide)))]; exact hr5), (show jByP (σ154 51) (σ154 52) (τ 54) by rw [show σ154 51 = σ 51 from ((f156 51 (by decide)).trans (f52 51 (by decide))), show σ154 52 = σ 52 from ((f156 52 (by decide)).trans (f52 52 (by decide)))]; exact hr6), (show jBk (σ154 48) (σ154 80) (σ154 49) (σ154 81) (σ154 55 47).toInt by rw [show σ154 48 = σ 48 from ((f156 48 (by decide)).trans (f52 48 (by decide))), show σ154 49 = σ 49 from ((f156 49 (by decide)).trans (f52 49 (by decide))), show σ154 80 = σ 80 from ((f156 80 (by decide)).trans (f52 80 (by decide))), show σ154 81 = σ 81 from ((f156 81 (by decide)).trans (f52 81 (by decide))), show (σ154 55 47).toInt = (σ 55 47).toInt from by omega]; exact hr7), (show jKd (σ154 39) (σ154 70) (σ154 55 32).toInt by rw [show σ154 39 = σ 39 from ((f156 39 (by decide)).trans (f52 39 (by decide))), show σ154 70 = σ 70 from ((f156 70 (by decide)).trans (f52 70 (by decide))), show (σ154 55 32).toInt = (σ 55 32).toInt from by omega]; exact hr8), (show jTt (σ154 42) (σ154 85) (σ154 55 55).toInt by rw [show σ154 42 = σ 42 from ((f156 42 (by decide)).trans (f52 42 (by decide))), show σ154 85 = σ 85 from ((f156 85 (by decide)).trans (f52 85 (by decide))), show (σ154 55 55).toInt = (σ 55 55).toInt from by omega]; exact hr9), (fun k hk => by rw [show σ154 4 = σ 4 from ((f156 4 (by decide)).trans (f52 4 (by decide))), show σ154 5 = σ 5 from ((f156 5 (by decide)).trans (f52 5 (by decide))), show σ154 60 = σ 60 from ((f156 60 (by decide)).trans (f52 60 (by decide))), show σ154 61 = σ 61 from ((f156 61 (by decide)).trans (f52 61 (by decide)))]; exact hr10 k (by omega)), (fun nm => by rw [show σ154 19 = σ 19 from ((f156 19 (by decide)).trans (f52 19 (by decide))), show σ154 64 = σ 64 from ((f156 64 (by decide)).trans (f52 64 (by decide))), show σ154 65 = σ 65 from ((f156 65 (by decide)).trans (f52 65 (by decide))), show (σ154 18 0).toInt = (σ 18 0).toInt from by omega]; exact hr11 nm), (fun nm => by rw [show σ154 23 = σ 23 from ((f156 23 (by decide)).trans (f52 23 (by decide))), show σ154 64 = σ 64 from ((f156 64 (by decide)).trans (f52 64 (by decide))), show σ154 65 = σ 65 from ((f156 65 (by decide)).trans (f52 65 (by decide))), show (σ154 22 0).toInt = (σ 22 0).toInt from by omega]; exact hr12 nm)⟩ hP hS (lv_sub hl [0, 1, 2, 3] rfl)
set_option maxHeartbeats 4000000 in
set_option maxRecDepth 100000 in
theorem law_case_4 {p : Program} {e : Env} {s : State} {m : MethodId} {below : List Frame} {meth : Method} {c : Code} (l : Launch) {b L : Nat} {xs : Nat → Int32} {D : va_G} {cI cL : ClassId} {ad zz : Nat → Nat} (C0 : lw_At p s m meth c b L xs) (hJ : jD ad) (hA : ∀ q, jA ad q → s.heap.size ≤ q) (hK : jK D cI cL s) (hZ : jZ zz (fun q : Nat => s.heap.size ≤ q) s s.heap) {x0 : Int32} (hx0 : 0 ≤ x0.toInt) (hxL : x0.toInt + 6 ≤ (L : Int)) (hL : L ≤ 384) {σ : Nat → Nat → Int32} {τ : Nat → Nat → Int64} {H : Heap} {locs : List Loc} (hS : va_S (fun q : Nat => s.heap.size ≤ q) s.heap H locs) {ls : Array Slot} (hAll : jAll x0.toInt σ τ) (hP : jH D cI cL ad σ τ H) (hl : lv_has ls 4 [(3, .int x0), (2, .ref (ad 55)), (1, .ref (ad 0)), (0, .ref b)]) (ih : ∀ (x1 : Int32) (σ : Nat → Nat → Int32) (τ : Nat → Nat → Int64) (H : Heap) (locs : List Loc) (ls : Array Slot), x1.toInt = x0.toInt + 6 → jAll x1.toInt σ τ → jH D cI cL ad σ τ H → va_S (fun q : Nat => s.heap.size ≤ q) s.heap H locs → lv_has ls 4 [(3, .int x1), (2, .ref (ad 55)), (1, .ref (ad 0)), (0, .ref b)] → W p l e room_1 s m #[Value.ref b] below meth c H locs 90 348600 (lw_Z below #[Value.ref b] s) (F0 m 18 ls [])) : W p l e room_1 s m #[Value.ref b] below meth c H locs 90 348600 (lw_Z below #[Value.ref b] s) (F0 m 348 ls []) := by
  obtain ⟨hx, hb, hr, hml, hown, hts0, hX, hbl, hlocks, hgv⟩ := C0
  have hts : ∀ w ∈ wsL_law, w.before #[Value.ref b] s = true := fun w h => hts0 w (wsL_law_in w h)
  have hbA : ¬ (fun q : Nat => s.heap.size ≤ q) b := Nat.not_le.mpr hbl
  have hown : s.vm.findClass RL = some m.cls := hown
  obtain ⟨hI2, hI9, hI12, hI16, hI18, hI22, hI31, hI38, hI43, hI47, hI50, hI0, hI26, hI101, hI102, hI103, hI104, hI105, hI106, hI107, hI109, hI110, hI111, hI119, hs_jKept, hs_jBook, hs_jNd12, hs_jN67, hs_jBl, hs_jKb, hs_jTR, hs_jKh, hs_jKg, ht0, ht1, ht2, ht3, ht4, ht5, ht6, ht7, ht8, ht9, ht10, ht11, ht12, ht13, hr0, hr1, hr2, hr3, hr4, hr5, hr6, hr7, hr8, hr9, hr10, hr11, hr12⟩ := hAll
  have hL9 : (L : Int) ≤ 384 := by omega
  obtain ⟨i1, i2, i3, i4, i5, w6⟩ : (0 ≤ (σ 2 0).toInt ∧ (σ 2 0).toInt ≤ 4) ∧ (0 ≤ (σ 2 1).toInt ∧ (σ 2 1).toInt ≤ 3) ∧ (0 ≤ (σ 2 2).toInt) ∧ (0 ≤ (σ 2 3).toInt) ∧ ((σ 2 2).toInt + (σ 2 3).toInt ≤ 40) ∧ (∀ k : Nat, k < 40 → 0 ≤ (σ 6 k).toInt ∧ (σ 6 k).toInt ≤ 67) := id hI2
  obtain ⟨i7, w8, w9⟩ : (0 ≤ (σ 9 0).toInt ∧ (σ 9 0).toInt ≤ 80) ∧ (∀ k : Nat, k < 80 → 0 ≤ (σ 10 k).toInt ∧ (σ 10 k).toInt ≤ 255) ∧ (∀ k : Nat, k < 8 → 0 ≤ (σ 11 k).toInt ∧ (σ 11 k).toInt ≤ 3) := id hI9
  obtain ⟨i10, i11, i12, w13⟩ : (1 ≤ (σ 16 0).toInt ∧ (σ 16 0).toInt ≤ 8) ∧ (1 ≤ (σ 16 1).toInt ∧ (σ 16 1).toInt ≤ 12) ∧ (0 ≤ (σ 16 2).toInt ∧ (σ 16 2).toInt ≤ 999) ∧ (∀ k : Nat, k < 8 → 0 ≤ (σ 17 k).toInt ∧ (σ 17 k).toInt ≤ 3) := id hI16
  obtain ⟨i14, i15, w16⟩ : (0 ≤ (σ 38 0).toInt ∧ (σ 38 0).toInt ≤ 20) ∧ (0 ≤ (σ 38 1).toInt ∧ (σ 38 1).toInt ≤ 1000) ∧ (∀ k : Nat, k < 20 → 0 ≤ (σ 39 k).toInt ∧ (σ 39 k).toInt ≤ 6) := id hI38
  obtain ⟨i17, w18, w19⟩ : (0 ≤ (σ 47 0).toInt ∧ (σ 47 0).toInt ≤ 12) ∧ (∀ k : Nat, k < 12 → 0 ≤ (σ 48 k).toInt ∧ (σ 48 k).toInt ≤ 3) ∧ (∀ k : Nat, k < 12 → 0 ≤ (σ 49 k).toInt ∧ (σ 49 k).toInt ≤ 1) := id hI47
  have w20 : ∀ k : Nat, k < 6 → 0 ≤ (σ 52 k).toInt ∧ (σ 52 k).toInt ≤ 60 := hI50
  have i21 : 1 ≤ (σ 26 6).toInt ∧ (σ 26 6).toInt ≤ 8000 := hI26
  obtain ⟨i22, i23, i24, w25, w26, w27, w28⟩ : (0 ≤ (σ 55 5).toInt) ∧ ((σ 55 5).toInt ≤ (σ 55 4).toInt) ∧ ((σ 55 4).toInt ≤ 40) ∧ (∀ k : Nat, k < 68 → (-200) ≤ (σ 56 k).toInt ∧ (σ 56 k).toInt ≤ 500) ∧ (∀ k : Nat, k < 40 → 0 ≤ (σ 57 k).toInt ∧ (σ 57 k).toInt ≤ 67) ∧ (∀ k : Nat, k < 40 → (-200) ≤ (σ 58 k).toInt ∧ (σ 58 k).toInt ≤ 500) ∧ (∀ k : Nat, k < 40 → (-200) ≤ (σ 59 k).toInt ∧ (σ 59 k).toInt ≤ 500) := id hI101
  obtain ⟨i29, w30, w31⟩ : (0 ≤ (σ 55 6).toInt ∧ (σ 55 6).toInt ≤ 4) ∧ (∀ k : Nat, k < 4 → 0 ≤ (σ 60 k).toInt ∧ (σ 60 k).toInt ≤ 50) ∧ (∀ k : Nat, k < 4 → 0 ≤ (σ 61 k).toInt ∧ (σ 61 k).toInt ≤ 20) := id hI102
  have i32 : 0 ≤ (σ 55 9).toInt ∧ (σ 55 9).toInt ≤ 3 := hI103
  obtain ⟨i33, i34, i35, w36, w37⟩ : (1 ≤ (σ 55 10).toInt ∧ (σ 55 10).toInt ≤ 8) ∧ (1 ≤ (σ 55 12).toInt ∧ (σ 55 12).toInt ≤ 12) ∧ (0 ≤ (σ 55 13).toInt ∧ (σ 55 13).toInt ≤ 999) ∧ (∀ k : Nat, k < 8 → 0 ≤ (σ 62 k).toInt ∧ (σ 62 k).toInt ≤ 3) ∧ (∀ k : Nat, k < 8 → 0 ≤ (σ 67 k).toInt ∧ (σ 67 k).toInt ≤ 3) := id hI104
  obtain ⟨i38, w39⟩ : (0 ≤ (σ 55 15).toInt ∧ (σ 55 15).toInt ≤ 80) ∧ (∀ k : Nat, k < 2 → (-1) ≤ (σ 65 k).toInt ∧ (σ 65 k).toInt ≤ 80) := id hI105
  obtain ⟨i40, w41, w42, w43⟩ : (0 ≤ (σ 55 32).toInt ∧ (σ 55 32).toInt ≤ 20) ∧ (∀ k : Nat, k < 20 → 0 ≤ (σ 70 k).toInt ∧ (σ 70 k).toInt ≤ 6) ∧ (∀ k : Nat, k < 20 → 0 ≤ (σ 71 k).toInt ∧ (σ 71 k).toInt ≤ 8) ∧ (∀ k : Nat, k < 160 → 0 ≤ (σ 72 k).toInt ∧ (σ 72 k).toInt ≤ 3) := id hI106
  obtain ⟨i44, i45, w46⟩ : (0 ≤ (σ 55 47).toInt ∧ (σ 55 47).toInt ≤ 12) ∧ ((σ 55 47).toInt ≤ (σ 55 12).toInt) ∧ (∀ k : Nat, k < 12 → 0 ≤ (σ 80 k).toInt ∧ (σ 80 k).toInt ≤ 3) := id hI107
  have hs_jOk3 : jOk3 σ := hr0.ok hr1.1
  refine lv_aload_n hx hb dL_law_348 rfl (lv_at hl 2 rfl) ?_
  refine lv_aload_n hx hb dL_law_349 rfl (lv_at hl 3 rfl) ?_
  refine lv_iload_n hx hb dL_law_350 rfl (lv_at hl 0 rfl) ?_
  refine lv_iconst (v := 1) hx hb dL_law_351 (by decide) ?_
  have g47 := jrg (rfl : x0.toInt = x0.toInt)
  refine lv_iadd hx hb dL_law_352 ?_
  refine lv_topi (fun x48 ex48 => ?_)
  have tx48 : x48.toInt = x0.toInt + 1 := (jadd ex48 rfl jz_1 (by omega) (by omega)).trans (by omega)
  refine va_sld hx hb hX hbl hbA hS (jin tx48 (by omega) (by omega)) dL_law_353 ?_
  have g49 := jrg (rfl : (xs x48.toNatClampNeg).toInt = (xs x48.toNatClampNeg).toInt)
  refine lv_aload_n hx hb dL_law_354 rfl (lv_at hl 3 rfl) ?_
  refine lv_iload_n hx hb dL_law_355 rfl (lv_at hl 0 rfl) ?_
  refine lv_iconst (v := 2) hx hb dL_law_356 (by decide) ?_
  refine lv_iadd hx hb dL_law_357 ?_
  refine lv_topi (fun x50 ex50 => ?_)
  have tx50 : x50.toInt = x0.toInt + 2 := (jadd ex50 rfl jz_2 (by omega) (by omega)).trans (by omega)
  refine va_sld hx hb hX hbl hbA hS (jin tx50 (by omega) (by omega)) dL_law_358 ?_
  have g51 := jrg (rfl : (xs x50.toNatClampNeg).toInt = (xs x50.toNatClampNeg).toInt)
  refine jcallV (As := [.int (xs x48.toNatClampNeg), .int (xs x50.toNatClampNeg)]) (rest := []) ⟨hx, hb, hml, hown, hts⟩ hK hP hA hS hZ (c_X11_feed l D cI cL ad zz hJ σ τ (xs x48.toNatClampNeg) ((xs x48.toNatClampNeg).toInt) rfl (xs x50.toNatClampNeg) ((xs x50.toNatClampNeg).toInt) rfl hI9) cw_RL_31 (jc_0 cI cL ad σ τ) rfl ⟨Nat.le_of_ble_eq_true rfl, Nat.le_of_ble_eq_true rfl⟩ rfl rfl rfl hl.1 rfl (Nat.le_of_ble_eq_true rfl) dL_law_359 ⟨Nat.le_of_ble_eq_true rfl, Nat.le_of_ble_eq_true rfl⟩ (fun r53 σ52 τ52 H locs h52 hP hS => ?_)
  obtain ⟨rfl, f54, f55, I56, h52⟩ := h52
  obtain ⟨i58, w59, w60⟩ : (0 ≤ (σ52 9 0).toInt ∧ (σ52 9 0).toInt ≤ 80) ∧ (∀ k : Nat, k < 80 → 0 ≤ (σ52 10 k).toInt ∧ (σ52 10 k).toInt ≤ 255) ∧ (∀ k : Nat, k < 8 → 0 ≤ (σ52 11 k).toInt ∧ (σ52 11 k).toInt ≤ 3) := id I56
  rcases h52 with h61 | h62 | h63
  · obtain ⟨q67, k64, k65, k66⟩ := h61
    have q67 := q67.symm
    subst q67
    refine lv_pop hx hb dL_law_362 rfl ?_
    refine lv_aload_n hx hb dL_law_363 rfl (lv_at hl 1 rfl) ?_
    refine lv_aload_n hx hb dL_law_364 rfl (lv_at hl 3 rfl) ?_
    refine lv_iload_n hx hb dL_law_365 rfl (lv_at hl 0 rfl) ?_
    refine lv_iconst (v := 1) hx hb dL_law_366 (by decide) ?_
    refine lv_iadd hx hb dL_law_367 ?_
    refine jtopr ex48.symm ?_
    refine va_sld hx hb hX hbl hbA hS (jin tx48 (by omega) (by omega)) dL_law_368 ?_
    refine lv_aload_n hx hb dL_law_369 rfl (lv_at hl 3 rfl) ?_
    refine lv_iload_n hx hb dL_law_370 rfl (lv_at hl 0 rfl) ?_
    refine lv_iconst (v := 2) hx hb dL_law_371 (by decide) ?_
    refine lv_iadd hx hb dL_law_372 ?_
    refine jtopr ex50.symm ?_
    refine va_sld hx hb hX hbl hbA hS (jin tx50 (by omega) (by omega)) dL_law_373 ?_
    have I68 : jI105 σ52 := jI105_fr (congrFun (f54 55 (by decide)) 15) (f54 65 (by decide)) hI105
    have z69 : (σ52 55 15).toInt = (σ 55 15).toInt := (congrArg Int32.toInt (show σ52 55 15 = (σ 55 15) from (congrFun (f54 55 (by decide)) 15)))
    refine jcallV (As := [.int (xs x48.toNatClampNeg), .int (xs x50.toNatClampNeg)]) (rest := []) ⟨hx, hb, hml, hown, hts⟩ hK hP hA hS hZ (c_X12_feed l D cI cL ad zz hJ σ52 τ (xs x48.toNatClampNeg) ((xs x48.toNatClampNeg).toInt) rfl (xs x50.toNatClampNeg) ((xs x50.toNatClampNeg).toInt) rfl I68) cw_RL_35 (jc_55 cI cL ad σ52 τ) rfl ⟨Nat.le_of_ble_eq_true rfl, Nat.le_of_ble_eq_true rfl⟩ rfl rfl rfl hl.1 rfl (Nat.le_of_ble_eq_true rfl) dL_law_374 ⟨Nat.le_of_ble_eq_true rfl, Nat.le_of_ble_eq_true rfl⟩ (fun r71 σ70 τ70 H locs h70 hP hS => ?_)
    obtain ⟨rfl, f72, f73, I74, h70⟩ := h70
    obtain ⟨i76, w77⟩ : (0 ≤ (σ70 55 15).toInt ∧ (σ70 55 15).toInt ≤ 80) ∧ (∀ k : Nat, k < 2 → (-1) ≤ (σ70 65 k).toInt ∧ (σ70 65 k).toInt ≤ 80) := id I74
    rcases h70 with h78 | h79 | h80
    · obtain ⟨q84, k81, k82, k83⟩ := h78
      have q84 := q84.symm
      subst q84
      refine lv_pop hx hb dL_law_377 rfl ?_
      refine lv_goto (tgt := 1357) hx hb dL_law_378 (by decide) ?_
      obtain ⟨x85, ex85⟩ : ∃ y : Int32, y = x0 + 6 := ⟨_, rfl⟩
      have tx85 : x85.toInt = x0.toInt + 6 := (jadd ex85 rfl jz_6 (by omega) (by omega)).trans (by omega)
      refine lv_iinc (v := x85) (lv' := [(3, .int x85), (2, .ref (ad 55)), (1, .ref (ad 0)), (0, .ref b)]) hx hb dL_law_1357 hl (k := 0) rfl (by rw [ex85]; rfl) (by decide) rfl (fun ls hl => ?_)
      refine lv_goto (tgt := 18) hx hb dL_law_1360 (by decide) ?_
      have I86 : jI2 σ70 := jI2_fr ((congrFun (f72 2 (by decide)) 0).trans (congrFun (f54 2 (by decide)) 0)) ((congrFun (f72 2 (by decide)) 1).trans (congrFun (f54 2 (by decide)) 1)) ((congrFun (f72 2 (by decide)) 2).trans (congrFun (f54 2 (by decide)) 2)) ((congrFun (f72 2 (by decide)) 3).trans (congrFun (f54 2 (by decide)) 3)) ((f72 6 (by decide)).trans (f54 6 (by decide))) hI2
      have I87 : jI9 σ70 := jI9_fr (congrFun (f72 9 (by decide)) 0) (f72 10 (by decide)) (f72 11 (by decide)) I56
      have I88 : jI12 σ70 := jI12_fr ((congrFun (f72 12 (by decide)) 0).trans (congrFun (f54 12 (by decide)) 0)) ((f72 13 (by decide)).trans (f54 13 (by decide))) hI12
      have I89 : jI16 σ70 := jI16_fr ((congrFun (f72 16 (by decide)) 0).trans (congrFun (f54 16 (by decide)) 0)) ((congrFun (f72 16 (by decide)) 1).trans (congrFun (f54 16 (by decide)) 1)) ((congrFun (f72 16 (by decide)) 2).trans (congrFun (f54 16 (by decide)) 2)) ((f72 17 (by decide)).trans (f54 17 (by decide))) hI16
      have I90 : jI18 σ70 := jI18_fr ((congrFun (f72 18 (by decide)) 0).trans (congrFun (f54 18 (by decide)) 0)) ((f72 19 (by decide)).trans (f54 19 (by decide))) hI18
      have I91 : jI22 σ70 := jI22_fr ((congrFun (f72 22 (by decide)) 0).trans (congrFun (f54 22 (by decide)) 0)) ((f72 23 (by decide)).trans (f54 23 (by decide))) hI22
      have I92 : jI31 σ70 := jI31_fr ((congrFun (f72 31 (by decide)) 8).trans (congrFun (f54 31 (by decide)) 8)) ((congrFun (f72 31 (by decide)) 10).trans (congrFun (f54 31 (by decide)) 10)) ((congrFun (f72 31 (by decide)) 11).trans (congrFun (f54 31 (by decide)) 11)) ((f72 33 (by decide)).trans (f54 33 (by decide))) ((f72 35 (by decide)).trans (f54 35 (by decide))) ((f72 36 (by decide)).trans (f54 36 (by decide))) hI31
      have I93 : jI38 σ70 := jI38_fr ((congrFun (f72 38 (by decide)) 0).trans (congrFun (f54 38 (by decide)) 0)) ((congrFun (f72 38 (by decide)) 1).trans (congrFun (f54 38 (by decide)) 1)) ((f72 39 (by decide)).trans (f54 39 (by decide))) hI38
      have I94 : jI43 σ70 := jI43_fr ((congrFun (f72 43 (by decide)) 8).trans (congrFun (f54 43 (by decide)) 8)) hI43
      have I95 : jI47 σ70 := jI47_fr ((congrFun (f72 47 (by decide)) 0).trans (congrFun (f54 47 (by decide)) 0)) ((f72 48 (by decide)).trans (f54 48 (by decide))) ((f72 49 (by decide)).trans (f54 49 (by decide))) hI47
      have I96 : jI50 σ70 := jI50_fr ((f72 52 (by decide)).trans (f54 52 (by decide))) hI50
      have I97 : jI0 σ70 := jI0_fr ((f72 1 (by decide)).trans (f54 1 (by decide))) hI0
      have I98 : jI26 σ70 := jI26_fr ((congrFun (f72 26 (by decide)) 6).trans (congrFun (f54 26 (by decide)) 6)) hI26
      have I99 : jI101 σ70 := jI101_fr ((f73 4 (by decide)).trans (congrFun (f54 55 (by decide)) 4)) ((f73 5 (by decide)).trans (congrFun (f54 55 (by decide)) 5)) ((f72 56 (by decide)).trans (f54 56 (by decide))) ((f72 57 (by decide)).trans (f54 57 (by decide))) ((f72 58 (by decide)).trans (f54 58 (by decide))) ((f72 59 (by decide)).trans (f54 59 (by decide))) hI101
      have I100 : jI102 σ70 := jI102_fr ((f73 6 (by decide)).trans (congrFun (f54 55 (by decide)) 6)) ((f72 60 (by decide)).trans (f54 60 (by decide))) ((f72 61 (by decide)).trans (f54 61 (by decide))) hI102
      have I101 : jI103 σ70 := jI103_fr ((f73 9 (by decide)).trans (congrFun (f54 55 (by decide)) 9)) hI103
      have I102 : jI104 σ70 := jI104_fr ((f73 10 (by decide)).trans (congrFun (f54 55 (by decide)) 10)) ((f73 12 (by decide)).trans (congrFun (f54 55 (by decide)) 12)) ((f73 13 (by decide)).trans (congrFun (f54 55 (by decide)) 13)) ((f72 62 (by decide)).trans (f54 62 (by decide))) ((f72 67 (by decide)).trans (f54 67 (by decide))) hI104
      have I103 : jI106 σ70 := jI106_fr ((f73 32 (by decide)).trans (congrFun (f54 55 (by decide)) 32)) ((f72 70 (by decide)).trans (f54 70 (by decide))) ((f72 71 (by decide)).trans (f54 71 (by decide))) ((f72 72 (by decide)).trans (f54 72 (by decide))) hI106
      have I104 : jI107 σ70 := jI107_fr ((f73 12 (by decide)).trans (congrFun (f54 55 (by decide)) 12)) ((f73 47 (by decide)).trans (congrFun (f54 55 (by decide)) 47)) ((f72 80 (by decide)).trans (f54 80 (by decide))) hI107
      have I105 : jI109 σ70 := jI109_fr ((f73 50 (by decide)).trans (congrFun (f54 55 (by decide)) 50)) hI109
      have I106 : jI110 σ70 := jI110_fr ((f72 86 (by decide)).trans (f54 86 (by decide))) ((f72 87 (by decide)).trans (f54 87 (by decide))) hI110
      have I107 : jI111 σ70 := jI111_fr ((f72 79 (by decide)).trans (f54 79 (by decide))) hI111
      have I108 : jI119 σ70 := jI119_fr ((f72 68 (by decide)).trans (f54 68 (by decide))) hI119
      have p109 : jKept σ70 := jKept.fr ((f72 75 (by decide)).trans (f54 75 (by decide))) ((f72 76 (by decide)).trans (f54 76 (by decide))) ((f72 77 (by decide)).trans (f54 77 (by decide))) hs_jKept
      have p110 : jBook σ70 := jBook.fr ((f73 47 (by decide)).trans (congrFun (f54 55 (by decide)) 47)) ((f73 10 (by decide)).trans (congrFun (f54 55 (by decide)) 10)) ((f72 81 (by decide)).trans (f54 81 (by decide))) hs_jBook
      have p111 : jNd12 σ70 := jNd12.fr ((congrFun (f72 12 (by decide)) 0).trans (congrFun (f54 12 (by decide)) 0)) ((congrFun (f72 12 (by decide)) 1).trans (congrFun (f54 12 (by decide)) 1)) ((f72 13 (by decide)).trans (f54 13 (by decide))) hs_jNd12
      have p112 : jN67 σ70 := jN67.fr ((f72 24 (by decide)).trans (f54 24 (by decide))) hs_jN67
      have p113 : jBl σ70 := jBl.fr ((congrFun (f72 22 (by decide)) 0).trans (congrFun (f54 22 (by decide)) 0)) ((congrFun (f72 22 (by decide)) 1).trans (congrFun (f54 22 (by decide)) 1)) ((f72 23 (by decide)).trans (f54 23 (by decide))) ((congrFun (f72 26 (by decide)) 6).trans (congrFun (f54 26 (by decide)) 6)) ((congrFun (f72 26 (by decide)) 7).trans (congrFun (f54 26 (by decide)) 7)) ((f72 29 (by decide)).trans (f54 29 (by decide))) ((f72 30 (by decide)).trans (f54 30 (by decide))) hs_jBl
      have p114 : jKb σ70 := jKb.fr ((congrFun (f72 31 (by decide)) 8).trans (congrFun (f54 31 (by decide)) 8)) ((congrFun (f72 31 (by decide)) 11).trans (congrFun (f54 31 (by decide)) 11)) ((f72 32 (by decide)).trans (f54 32 (by decide))) hs_jKb
      have p115 : jTR σ70 := jTR.fr ((f72 64 (by decide)).trans (f54 64 (by decide))) ((f72 65 (by decide)).trans (f54 65 (by decide))) hs_jTR
      have p116 : jKh σ70 := jKh.fr ((congrFun (f72 31 (by decide)) 8).trans (congrFun (f54 31 (by decide)) 8)) ((f72 32 (by decide)).trans (f54 32 (by decide))) ((f72 36 (by decide)).trans (f54 36 (by decide))) ((f72 37 (by decide)).trans (f54 37 (by decide))) hs_jKh
      have p117 : jKg σ70 := jKg.fr ((congrFun (f72 31 (by decide)) 8).trans (congrFun (f54 31 (by decide)) 8)) ((congrFun (f72 31 (by decide)) 9).trans (congrFun (f54 31 (by decide)) 9)) ((congrFun (f72 31 (by decide)) 11).trans (congrFun (f54 31 (by decide)) 11)) ((congrFun (f72 31 (by decide)) 12).trans (congrFun (f54 31 (by decide)) 12)) ((f72 32 (by decide)).trans (f54 32 (by decide))) ((f72 33 (by decide)).trans (f54 33 (by decide))) hs_jKg
      have z118 : (σ70 2 0).toInt = (σ 2 0).toInt := (congrArg Int32.toInt (show σ70 2 0 = (σ 2 0) from ((congrFun (f72 2 (by decide)) 0).trans (congrFun (f54 2 (by decide)) 0))))
      have z119 : (σ70 55 6).toInt = (σ 55 6).toInt := (congrArg Int32.toInt (show σ70 55 6 = (σ 55 6) from ((f73 6 (by decide)).trans (congrFun (f54 55 (by decide)) 6))))
      have z120 : (σ70 2 2).toInt = (σ 2 2).toInt := (congrArg Int32.toInt (show σ70 2 2 = (σ 2 2) from ((congrFun (f72 2 (by decide)) 2).trans (congrFun (f54 2 (by decide)) 2))))
      have z121 : (σ70 55 5).toInt = (σ 55 5).toInt := (congrArg Int32.toInt (show σ70 55 5 = (σ 55 5) from ((f73 5 (by decide)).trans (congrFun (f54 55 (by decide)) 5))))
      have z122 : (σ70 2 3).toInt = (σ 2 3).toInt := (congrArg Int32.toInt (show σ70 2 3 = (σ 2 3) from ((congrFun (f72 2 (by decide)) 3).trans (congrFun (f54 2 (by decide)) 3))))
      have z123 : (σ70 55 4).toInt = (σ 55 4).toInt := (congrArg Int32.toInt (show σ70 55 4 = (σ 55 4) from ((f73 4 (by decide)).trans (congrFun (f54 55 (by decide)) 4))))
      have z124 : (σ70 9 0).toInt = (σ52 9 0).toInt := (congrArg Int32.toInt (show σ70 9 0 = (σ52 9 0) from (congrFun (f72 9 (by decide)) 0)))
      have z125 : (σ70 16 0).toInt = (σ 16 0).toInt := (congrArg Int32.toInt (show σ70 16 0 = (σ 16 0) from ((congrFun (f72 16 (by decide)) 0).trans (congrFun (f54 16 (by decide)) 0))))
      have z126 : (σ70 55 10).toInt = (σ 55 10).toInt := (congrArg Int32.toInt (show σ70 55 10 = (σ 55 10) from ((f73 10 (by decide)).trans (congrFun (f54 55 (by decide)) 10))))
      have z127 : (σ70 16 1).toInt = (σ 16 1).toInt := (congrArg Int32.toInt (show σ70 16 1 = (σ 16 1) from ((congrFun (f72 16 (by decide)) 1).trans (congrFun (f54 16 (by decide)) 1))))
      have z128 : (σ70 55 12).toInt = (σ 55 12).toInt := (congrArg Int32.toInt (show σ70 55 12 = (σ 55 12) from ((f73 12 (by decide)).trans (congrFun (f54 55 (by decide)) 12))))
      have z129 : (σ70 16 2).toInt = (σ 16 2).toInt := (congrArg Int32.toInt (show σ70 16 2 = (σ 16 2) from ((congrFun (f72 16 (by decide)) 2).trans (congrFun (f54 16 (by decide)) 2))))
      have z130 : (σ70 55 13).toInt = (σ 55 13).toInt := (congrArg Int32.toInt (show σ70 55 13 = (σ 55 13) from ((f73 13 (by decide)).trans (congrFun (f54 55 (by decide)) 13))))
      have z131 : (σ70 38 0).toInt = (σ 38 0).toInt := (congrArg Int32.toInt (show σ70 38 0 = (σ 38 0) from ((congrFun (f72 38 (by decide)) 0).trans (congrFun (f54 38 (by decide)) 0))))
      have z132 : (σ70 55 32).toInt = (σ 55 32).toInt := (congrArg Int32.toInt (show σ70 55 32 = (σ 55 32) from ((f73 32 (by decide)).trans (congrFun (f54 55 (by decide)) 32))))
      have z133 : (σ70 38 1).toInt = (σ 38 1).toInt := (congrArg Int32.toInt (show σ70 38 1 = (σ 38 1) from ((congrFun (f72 38 (by decide)) 1).trans (congrFun (f54 38 (by decide)) 1))))
      have z134 : (σ70 55 55).toInt = (σ 55 55).toInt := (congrArg Int32.toInt (show σ70 55 55 = (σ 55 55) from ((f73 55 (by decide)).trans (congrFun (f54 55 (by decide)) 55))))
      have z135 : (σ70 47 0).toInt = (σ 47 0).toInt := (congrArg Int32.toInt (show σ70 47 0 = (σ 47 0) from ((congrFun (f72 47 (by decide)) 0).trans (congrFun (f54 47 (by decide)) 0))))
      have z136 : (σ70 55 47).toInt = (σ 55 47).toInt := (congrArg Int32.toInt (show σ70 55 47 = (σ 55 47) from ((f73 47 (by decide)).trans (congrFun (f54 55 (by decide)) 47))))
      have z137 : (σ70 55 30).toInt = (σ 55 30).toInt := (congrArg Int32.toInt (show σ70 55 30 = (σ 55 30) from ((f73 30 (by decide)).trans (congrFun (f54 55 (by decide)) 30))))
      have z138 : (σ70 55 31).toInt = (σ 55 31).toInt := (congrArg Int32.toInt (show σ70 55 31 = (σ 55 31) from ((f73 31 (by decide)).trans (congrFun (f54 55 (by decide)) 31))))
      have z139 : (σ70 2 1).toInt = (σ 2 1).toInt := (congrArg Int32.toInt (show σ70 2 1 = (σ 2 1) from ((congrFun (f72 2 (by decide)) 1).trans (congrFun (f54 2 (by decide)) 1))))
      have z140 : (σ70 55 9).toInt = (σ 55 9).toInt := (congrArg Int32.toInt (show σ70 55 9 = (σ 55 9) from ((f73 9 (by decide)).trans (congrFun (f54 55 (by decide)) 9))))
      have z141 : (σ70 26 6).toInt = (σ 26 6).toInt := (congrArg Int32.toInt (show σ70 26 6 = (σ 26 6) from ((congrFun (f72 26 (by decide)) 6).trans (congrFun (f54 26 (by decide)) 6))))
      have z143 : (σ70 18 0).toInt = (σ 18 0).toInt := (congrArg Int32.toInt (show σ70 18 0 = (σ 18 0) from ((congrFun (f72 18 (by decide)) 0).trans (congrFun (f54 18 (by decide)) 0))))
      have z144 : (σ70 22 0).toInt = (σ 22 0).toInt := (congrArg Int32.toInt (show σ70 22 0 = (σ 22 0) from ((congrFun (f72 22 (by decide)) 0).trans (congrFun (f54 22 (by decide)) 0))))
      exact ih x85 σ70 τ _ _ ls (by have h9 := tx85; omega) ⟨I86, I87, I88, I89, I90, I91, I92, I93, I94, I95, I96, I97, I98, I99, I100, I101, I102, I74, I103, I104, I105, I106, I107, I108, p109, p110, p111, p112, p113, p114, p115, p116, p117, (by omega), (by omega), (by omega), (by omega), (by omega), (by omega), (by omega), (by omega), (by omega), (by omega), (by omega), (by omega), (by omega), (by have h9 := tx85; omega), (show jNumP (σ70 3) (σ70 56) (σ70 6) (σ70 57) (σ70 7) (σ70 58) (σ70 8) (σ70 59) (σ70 55 6).toInt (σ70 55 4).toInt by rw [show σ70 3 = σ 3 from ((f72 3 (by decide)).trans (f54 3 (by decide))), show σ70 56 = σ 56 from ((f72 56 (by decide)).trans (f54 56 (by decide))), show σ70 6 = σ 6 from ((f72 6 (by decide)).trans (f54 6 (by decide))), show σ70 57 = σ 57 from ((f72 57 (by decide)).trans (f54 57 (by decide))), show σ70 7 = σ 7 from ((f72 7 (by decide)).trans (f54 7 (by decide))), show σ70 58 = σ 58 from ((f72 58 (by decide)).trans (f54 58 (by decide))), show σ70 8 = σ 8 from ((f72 8 (by decide)).trans (f54 8 (by decide))), show σ70 59 = σ 59 from ((f72 59 (by decide)).trans (f54 59 (by decide))), show (σ70 55 6).toInt = (σ 55 6).toInt from by omega, show (σ70 55 4).toInt = (σ 55 4).toInt from by omega]; exact hr0), (show jOvP (σ70 56) (σ70 57) (σ70 58) (σ70 59) (σ70 55 4).toInt by rw [show σ70 56 = σ 56 from ((f72 56 (by decide)).trans (f54 56 (by decide))), show σ70 57 = σ 57 from ((f72 57 (by decide)).trans (f54 57 (by decide))), show σ70 58 = σ 58 from ((f72 58 (by decide)).trans (f54 58 (by decide))), show σ70 59 = σ 59 from ((f72 59 (by decide)).trans (f54 59 (by decide))), show (σ70 55 4).toInt = (σ 55 4).toInt from by omega]; exact hr1), (show jTp (σ70 10) (σ70 63) (σ70 55 15).toInt by rw [show σ70 10 = σ 10 from ((f72 10 (by decide)).trans k66), show σ70 63 = σ 63 from (k83.trans (f54 63 (by decide)))]; exact hr2.le (by omega)), (show jSo (σ70 17) (σ70 62) (σ70 16 0).toInt by rw [show σ70 17 = σ 17 from ((f72 17 (by decide)).trans (f54 17 (by decide))), show σ70 62 = σ 62 from ((f72 62 (by decide)).trans (f54 62 (by decide))), show (σ70 16 0).toInt = (σ 16 0).toInt from by omega]; exact hr3), (show jShP (σ70 51) (σ70 52) (σ70 53) (σ70 86) (σ70 87) (σ70 55 32).toInt by rw [show σ70 51 = σ 51 from ((f72 51 (by decide)).trans (f54 51 (by decide))), show σ70 52 = σ 52 from ((f72 52 (by decide)).trans (f54 52 (by decide))), show σ70 53 = σ 53 from ((f72 53 (by decide)).trans (f54 53 (by decide))), show σ70 86 = σ 86 from ((f72 86 (by decide)).trans (f54 86 (by decide))), show σ70 87 = σ 87 from ((f72 87 (by decide)).trans (f54 87 (by decide)))]; exact (hr4.up (by omega) (by omega))), (show jEl (σ70 51) (σ70 52) (τ 54) (τ 88) by rw [show σ70 51 = σ 51 from ((f72 51 (by decide)).trans (f54 51 (by decide))), show σ70 52 = σ 52 from ((f72 52 (by decide)).trans (f54 52 (by decide)))]; exact hr5), (show jByP (σ70 51) (σ70 52) (τ 54) by rw [show σ70 51 = σ 51 from ((f72 51 (by decide)).trans (f54 51 (by decide))), show σ70 52 = σ 52 from ((f72 52 (by decide)).trans (f54 52 (by decide)))]; exact hr6), (show jBk (σ70 48) (σ70 80) (σ70 49) (σ70 81) (σ70 55 47).toInt by rw [show σ70 48 = σ 48 from ((f72 48 (by decide)).trans (f54 48 (by decide))), show σ70 49 = σ 49 from ((f72 49 (by decide)).trans (f54 49 (by decide))), show σ70 80 = σ 80 from ((f72 80 (by decide)).trans (f54 80 (by decide))), show σ70 81 = σ 81 from ((f72 81 (by decide)).trans (f54 81 (by decide))), show (σ70 55 47).toInt = (σ 55 47).toInt from by omega]; exact hr7), (show jKd (σ70 39) (σ70 70) (σ70 55 32).toInt by rw [show σ70 39 = σ 39 from ((f72 39 (by decide)).trans (f54 39 (by decide))), show σ70 70 = σ 70 from ((f72 70 (by decide)).trans (f54 70 (by decide))), show (σ70 55 32).toInt = (σ 55 32).toInt from by omega]; exact hr8), (show jTt (σ70 42) (σ70 85) (σ70 55 55).toInt by rw [show σ70 42 = σ 42 from ((f72 42 (by decide)).trans (f54 42 (by decide))), show σ70 85 = σ 85 from ((f72 85 (by decide)).trans (f54 85 (by decide))), show (σ70 55 55).toInt = (σ 55 55).toInt from by omega]; exact hr9), (fun k hk => by rw [show σ70 4 = σ 4 from ((f72 4 (by decide)).trans (f54 4 (by decide))), show σ70 5 = σ 5 from ((f72 5 (by decide)).trans (f54 5 (by decide))), show σ70 60 = σ 60 from ((f72 60 (by decide)).trans (f54 60 (by decide))), show σ70 61 = σ 61 from ((f72 61 (by decide)).trans (f54 61 (by decide)))]; exact hr10 k (by omega)), (fun nm => by rw [show σ70 19 = σ 19 from ((f72 19 (by decide)).trans (f54 19 (by decide))), show σ70 64 = σ 64 from ((f72 64 (by decide)).trans (f54 64 (by decide))), show σ70 65 = σ 65 from ((f72 65 (by decide)).trans (f54 65 (by decide))), show (σ70 18 0).toInt = (σ 18 0).toInt from by omega]; exact hr11 nm), (fun nm => by rw [show σ70 23 = σ 23 from ((f72 23 (by decide)).trans (f54 23 (by decide))), show σ70 64 = σ 64 from ((f72 64 (by decide)).trans (f54 64 (by decide))), show σ70 65 = σ 65 from ((f72 65 (by decide)).trans (f54 65 (by decide))), show (σ70 22 0).toInt = (σ 22 0).toInt from by omega]; exact hr12 nm)⟩ hP hS (lv_sub hl [0, 1, 2, 3] rfl)
    · obtain ⟨q149, k145, k146, k147, k148⟩ := h79
      exact absurd (by omega : False) id
    · obtain ⟨q155, k150, k151, k152, k153, k154⟩ := h80
      exact absurd (by omega : False) id
  · obtain ⟨q160, k156, k157, k158, k159⟩ := h62
    have q160 := q160.symm
    subst q160
    refine lv_pop hx hb dL_law_362 rfl ?_
    refine lv_aload_n hx hb dL_law_363 rfl (lv_at hl 1 rfl) ?_
    refine lv_aload_n hx hb dL_law_364 rfl (lv_at hl 3 rfl) ?_
    refine lv_iload_n hx hb dL_law_365 rfl (lv_at hl 0 rfl) ?_
    refine lv_iconst (v := 1) hx hb dL_law_366 (by decide) ?_
    refine lv_iadd hx hb dL_law_367 ?_
    refine jtopr ex48.symm ?_
    refine va_sld hx hb hX hbl hbA hS (jin tx48 (by omega) (by omega)) dL_law_368 ?_
    refine lv_aload_n hx hb dL_law_369 rfl (lv_at hl 3 rfl) ?_
    refine lv_iload_n hx hb dL_law_370 rfl (lv_at hl 0 rfl) ?_
    refine lv_iconst (v := 2) hx hb dL_law_371 (by decide) ?_
    refine lv_iadd hx hb dL_law_372 ?_
    refine jtopr ex50.symm ?_
    refine va_sld hx hb hX hbl hbA hS (jin tx50 (by omega) (by omega)) dL_law_373 ?_
    have I161 : jI105 σ52 := jI105_fr (congrFun (f54 55 (by decide)) 15) (f54 65 (by decide)) hI105
    have z162 : (σ52 55 15).toInt = (σ 55 15).toInt := (congrArg Int32.toInt (show σ52 55 15 = (σ 55 15) from (congrFun (f54 55 (by decide)) 15)))
    refine jcallV (As := [.int (xs x48.toNatClampNeg), .int (xs x50.toNatClampNeg)]) (rest := []) ⟨hx, hb, hml, hown, hts⟩ hK hP hA hS hZ (c_X12_feed l D cI cL ad zz hJ σ52 τ (xs x48.toNatClampNeg) ((xs x48.toNatClampNeg).toInt) rfl (xs x50.toNatClampNeg) ((xs x50.toNatClampNeg).toInt) rfl I161) cw_RL_35 (jc_55 cI cL ad σ52 τ) rfl ⟨Nat.le_of_ble_eq_true rfl, Nat.le_of_ble_eq_true rfl⟩ rfl rfl rfl hl.1 rfl (Nat.le_of_ble_eq_true rfl) dL_law_374 ⟨Nat.le_of_ble_eq_true rfl, Nat.le_of_ble_eq_true rfl⟩ (fun r164 σ163 τ163 H locs h163 hP hS => ?_)
    obtain ⟨rfl, f165, f166, I167, h163⟩ := h163
    obtain ⟨i169, w170⟩ : (0 ≤ (σ163 55 15).toInt ∧ (σ163 55 15).toInt ≤ 80) ∧ (∀ k : Nat, k < 2 → (-1) ≤ (σ163 65 k).toInt ∧ (σ163 65 k).toInt ≤ 80) := id I167
    rcases h163 with h171 | h172 | h173
    · obtain ⟨q177, k174, k175, k176⟩ := h171
      exact absurd (by omega : False) id
    · obtain ⟨q182, k178, k179, k180, k181⟩ := h172
      have q182 := q182.symm
      subst q182
      refine lv_pop hx hb dL_law_377 rfl ?_
      refine lv_goto (tgt := 1357) hx hb dL_law_378 (by decide) ?_
      obtain ⟨x183, ex183⟩ : ∃ y : Int32, y = x0 + 6 := ⟨_, rfl⟩
      have tx183 : x183.toInt = x0.toInt + 6 := (jadd ex183 rfl jz_6 (by omega) (by omega)).trans (by omega)
      refine lv_iinc (v := x183) (lv' := [(3, .int x183), (2, .ref (ad 55)), (1, .ref (ad 0)), (0, .ref b)]) hx hb dL_law_1357 hl (k := 0) rfl (by rw [ex183]; rfl) (by decide) rfl (fun ls hl => ?_)
      refine lv_goto (tgt := 18) hx hb dL_law_1360 (by decide) ?_
      have I184 : jI2 σ163 := jI2_fr ((congrFun (f165 2 (by decide)) 0).trans (congrFun (f54 2 (by decide)) 0)) ((congrFun (f165 2 (by decide)) 1).trans (congrFun (f54 2 (by decide)) 1)) ((congrFun (f165 2 (by decide)) 2).trans (congrFun (f54 2 (by decide)) 2)) ((congrFun (f165 2 (by decide)) 3).trans (congrFun (f54 2 (by decide)) 3)) ((f165 6 (by decide)).trans (f54 6 (by decide))) hI2
      have I185 : jI9 σ163 := jI9_fr (congrFun (f165 9 (by decide)) 0) (f165 10 (by decide)) (f165 11 (by decide)) I56
      have I186 : jI12 σ163 := jI12_fr ((congrFun (f165 12 (by decide)) 0).trans (congrFun (f54 12 (by decide)) 0)) ((f165 13 (by decide)).trans (f54 13 (by decide))) hI12
      have I187 : jI16 σ163 := jI16_fr ((congrFun (f165 16 (by decide)) 0).trans (congrFun (f54 16 (by decide)) 0)) ((congrFun (f165 16 (by decide)) 1).trans (congrFun (f54 16 (by decide)) 1)) ((congrFun (f165 16 (by decide)) 2).trans (congrFun (f54 16 (by decide)) 2)) ((f165 17 (by decide)).trans (f54 17 (by decide))) hI16
      have I188 : jI18 σ163 := jI18_fr ((congrFun (f165 18 (by decide)) 0).trans (congrFun (f54 18 (by decide)) 0)) ((f165 19 (by decide)).trans (f54 19 (by decide))) hI18
      have I189 : jI22 σ163 := jI22_fr ((congrFun (f165 22 (by decide)) 0).trans (congrFun (f54 22 (by decide)) 0)) ((f165 23 (by decide)).trans (f54 23 (by decide))) hI22
      have I190 : jI31 σ163 := jI31_fr ((congrFun (f165 31 (by decide)) 8).trans (congrFun (f54 31 (by decide)) 8)) ((congrFun (f165 31 (by decide)) 10).trans (congrFun (f54 31 (by decide)) 10)) ((congrFun (f165 31 (by decide)) 11).trans (congrFun (f54 31 (by decide)) 11)) ((f165 33 (by decide)).trans (f54 33 (by decide))) ((f165 35 (by decide)).trans (f54 35 (by decide))) ((f165 36 (by decide)).trans (f54 36 (by decide))) hI31
      have I191 : jI38 σ163 := jI38_fr ((congrFun (f165 38 (by decide)) 0).trans (congrFun (f54 38 (by decide)) 0)) ((congrFun (f165 38 (by decide)) 1).trans (congrFun (f54 38 (by decide)) 1)) ((f165 39 (by decide)).trans (f54 39 (by decide))) hI38
      have I192 : jI43 σ163 := jI43_fr ((congrFun (f165 43 (by decide)) 8).trans (congrFun (f54 43 (by decide)) 8)) hI43
      have I193 : jI47 σ163 := jI47_fr ((congrFun (f165 47 (by decide)) 0).trans (congrFun (f54 47 (by decide)) 0)) ((f165 48 (by decide)).trans (f54 48 (by decide))) ((f165 49 (by decide)).trans (f54 49 (by decide))) hI47
      have I194 : jI50 σ163 := jI50_fr ((f165 52 (by decide)).trans (f54 52 (by decide))) hI50
      have I195 : jI0 σ163 := jI0_fr ((f165 1 (by decide)).trans (f54 1 (by decide))) hI0
      have I196 : jI26 σ163 := jI26_fr ((congrFun (f165 26 (by decide)) 6).trans (congrFun (f54 26 (by decide)) 6)) hI26
      have I197 : jI101 σ163 := jI101_fr ((f166 4 (by decide)).trans (congrFun (f54 55 (by decide)) 4)) ((f166 5 (by decide)).trans (congrFun (f54 55 (by decide)) 5)) ((f165 56 (by decide)).trans (f54 56 (by decide))) ((f165 57 (by decide)).trans (f54 57 (by decide))) ((f165 58 (by decide)).trans (f54 58 (by decide))) ((f165 59 (by decide)).trans (f54 59 (by decide))) hI101
      have I198 : jI102 σ163 := jI102_fr ((f166 6 (by decide)).trans (congrFun (f54 55 (by decide)) 6)) ((f165 60 (by decide)).trans (f54 60 (by decide))) ((f165 61 (by decide)).trans (f54 61 (by decide))) hI102
      have I199 : jI103 σ163 := jI103_fr ((f166 9 (by decide)).trans (congrFun (f54 55 (by decide)) 9)) hI103
      have I200 : jI104 σ163 := jI104_fr ((f166 10 (by decide)).trans (congrFun (f54 55 (by decide)) 10)) ((f166 12 (by decide)).trans (congrFun (f54 55 (by decide)) 12)) ((f166 13 (by decide)).trans (congrFun (f54 55 (by decide)) 13)) ((f165 62 (by decide)).trans (f54 62 (by decide))) ((f165 67 (by decide)).trans (f54 67 (by decide))) hI104
      have I201 : jI106 σ163 := jI106_fr ((f166 32 (by decide)).trans (congrFun (f54 55 (by decide)) 32)) ((f165 70 (by decide)).trans (f54 70 (by decide))) ((f165 71 (by decide)).trans (f54 71 (by decide))) ((f165 72 (by decide)).trans (f54 72 (by decide))) hI106
      have I202 : jI107 σ163 := jI107_fr ((f166 12 (by decide)).trans (congrFun (f54 55 (by decide)) 12)) ((f166 47 (by decide)).trans (congrFun (f54 55 (by decide)) 47)) ((f165 80 (by decide)).trans (f54 80 (by decide))) hI107
      have I203 : jI109 σ163 := jI109_fr ((f166 50 (by decide)).trans (congrFun (f54 55 (by decide)) 50)) hI109
      have I204 : jI110 σ163 := jI110_fr ((f165 86 (by decide)).trans (f54 86 (by decide))) ((f165 87 (by decide)).trans (f54 87 (by decide))) hI110
      have I205 : jI111 σ163 := jI111_fr ((f165 79 (by decide)).trans (f54 79 (by decide))) hI111
      have I206 : jI119 σ163 := jI119_fr ((f165 68 (by decide)).trans (f54 68 (by decide))) hI119
      have p207 : jKept σ163 := jKept.fr ((f165 75 (by decide)).trans (f54 75 (by decide))) ((f165 76 (by decide)).trans (f54 76 (by decide))) ((f165 77 (by decide)).trans (f54 77 (by decide))) hs_jKept
      have p208 : jBook σ163 := jBook.fr ((f166 47 (by decide)).trans (congrFun (f54 55 (by decide)) 47)) ((f166 10 (by decide)).trans (congrFun (f54 55 (by decide)) 10)) ((f165 81 (by decide)).trans (f54 81 (by decide))) hs_jBook
      have p209 : jNd12 σ163 := jNd12.fr ((congrFun (f165 12 (by decide)) 0).trans (congrFun (f54 12 (by decide)) 0)) ((congrFun (f165 12 (by decide)) 1).trans (congrFun (f54 12 (by decide)) 1)) ((f165 13 (by decide)).trans (f54 13 (by decide))) hs_jNd12
      have p210 : jN67 σ163 := jN67.fr ((f165 24 (by decide)).trans (f54 24 (by decide))) hs_jN67
      have p211 : jBl σ163 := jBl.fr ((congrFun (f165 22 (by decide)) 0).trans (congrFun (f54 22 (by decide)) 0)) ((congrFun (f165 22 (by decide)) 1).trans (congrFun (f54 22 (by decide)) 1)) ((f165 23 (by decide)).trans (f54 23 (by decide))) ((congrFun (f165 26 (by decide)) 6).trans (congrFun (f54 26 (by decide)) 6)) ((congrFun (f165 26 (by decide)) 7).trans (congrFun (f54 26 (by decide)) 7)) ((f165 29 (by decide)).trans (f54 29 (by decide))) ((f165 30 (by decide)).trans (f54 30 (by decide))) hs_jBl
      have p212 : jKb σ163 := jKb.fr ((congrFun (f165 31 (by decide)) 8).trans (congrFun (f54 31 (by decide)) 8)) ((congrFun (f165 31 (by decide)) 11).trans (congrFun (f54 31 (by decide)) 11)) ((f165 32 (by decide)).trans (f54 32 (by decide))) hs_jKb
      have p213 : jTR σ163 := jTR.fr ((f165 64 (by decide)).trans (f54 64 (by decide))) ((f165 65 (by decide)).trans (f54 65 (by decide))) hs_jTR
      have p214 : jKh σ163 := jKh.fr ((congrFun (f165 31 (by decide)) 8).trans (congrFun (f54 31 (by decide)) 8)) ((f165 32 (by decide)).trans (f54 32 (by decide))) ((f165 36 (by decide)).trans (f54 36 (by decide))) ((f165 37 (by decide)).trans (f54 37 (by decide))) hs_jKh
      have p215 : jKg σ163 := jKg.fr ((congrFun (f165 31 (by decide)) 8).trans (congrFun (f54 31 (by decide)) 8)) ((congrFun (f165 31 (by decide)) 9).trans (congrFun (f54 31 (by decide)) 9)) ((congrFun (f165 31 (by decide)) 11).trans (congrFun (f54 31 (by decide)) 11)) ((congrFun (f165 31 (by decide)) 12).trans (congrFun (f54 31 (by decide)) 12)) ((f165 32 (by decide)).trans (f54 32 (by decide))) ((f165 33 (by decide)).trans (f54 33 (by decide))) hs_jKg
      have z216 : (σ163 2 0).toInt = (σ 2 0).toInt := (congrArg Int32.toInt (show σ163 2 0 = (σ 2 0) from ((congrFun (f165 2 (by decide)) 0).trans (congrFun (f54 2 (by decide)) 0))))
      have z217 : (σ163 55 6).toInt = (σ 55 6).toInt := (congrArg Int32.toInt (show σ163 55 6 = (σ 55 6) from ((f166 6 (by decide)).trans (congrFun (f54 55 (by decide)) 6))))
      have z218 : (σ163 2 2).toInt = (σ 2 2).toInt := (congrArg Int32.toInt (show σ163 2 2 = (σ 2 2) from ((congrFun (f165 2 (by decide)) 2).trans (congrFun (f54 2 (by decide)) 2))))
      have z219 : (σ163 55 5).toInt = (σ 55 5).toInt := (congrArg Int32.toInt (show σ163 55 5 = (σ 55 5) from ((f166 5 (by decide)).trans (congrFun (f54 55 (by decide)) 5))))
      have z220 : (σ163 2 3).toInt = (σ 2 3).toInt := (congrArg Int32.toInt (show σ163 2 3 = (σ 2 3) from ((congrFun (f165 2 (by decide)) 3).trans (congrFun (f54 2 (by decide)) 3))))
      have z221 : (σ163 55 4).toInt = (σ 55 4).toInt := (congrArg Int32.toInt (show σ163 55 4 = (σ 55 4) from ((f166 4 (by decide)).trans (congrFun (f54 55 (by decide)) 4))))
      have z222 : (σ163 9 0).toInt = (σ52 9 0).toInt := (congrArg Int32.toInt (show σ163 9 0 = (σ52 9 0) from (congrFun (f165 9 (by decide)) 0)))
      have z223 : (σ163 16 0).toInt = (σ 16 0).toInt := (congrArg Int32.toInt (show σ163 16 0 = (σ 16 0) from ((congrFun (f165 16 (by decide)) 0).trans (congrFun (f54 16 (by decide)) 0))))
      have z224 : (σ163 55 10).toInt = (σ 55 10).toInt := (congrArg Int32.toInt (show σ163 55 10 = (σ 55 10) from ((f166 10 (by decide)).trans (congrFun (f54 55 (by decide)) 10))))
      have z225 : (σ163 16 1).toInt = (σ 16 1).toInt := (congrArg Int32.toInt (show σ163 16 1 = (σ 16 1) from ((congrFun (f165 16 (by decide)) 1).trans (congrFun (f54 16 (by decide)) 1))))
      have z226 : (σ163 55 12).toInt = (σ 55 12).toInt := (congrArg Int32.toInt (show σ163 55 12 = (σ 55 12) from ((f166 12 (by decide)).trans (congrFun (f54 55 (by decide)) 12))))
      have z227 : (σ163 16 2).toInt = (σ 16 2).toInt := (congrArg Int32.toInt (show σ163 16 2 = (σ 16 2) from ((congrFun (f165 16 (by decide)) 2).trans (congrFun (f54 16 (by decide)) 2))))
      have z228 : (σ163 55 13).toInt = (σ 55 13).toInt := (congrArg Int32.toInt (show σ163 55 13 = (σ 55 13) from ((f166 13 (by decide)).trans (congrFun (f54 55 (by decide)) 13))))
      have z229 : (σ163 38 0).toInt = (σ 38 0).toInt := (congrArg Int32.toInt (show σ163 38 0 = (σ 38 0) from ((congrFun (f165 38 (by decide)) 0).trans (congrFun (f54 38 (by decide)) 0))))
      have z230 : (σ163 55 32).toInt = (σ 55 32).toInt := (congrArg Int32.toInt (show σ163 55 32 = (σ 55 32) from ((f166 32 (by decide)).trans (congrFun (f54 55 (by decide)) 32))))
      have z231 : (σ163 38 1).toInt = (σ 38 1).toInt := (congrArg Int32.toInt (show σ163 38 1 = (σ 38 1) from ((congrFun (f165 38 (by decide)) 1).trans (congrFun (f54 38 (by decide)) 1))))
      have z232 : (σ163 55 55).toInt = (σ 55 55).toInt := (congrArg Int32.toInt (show σ163 55 55 = (σ 55 55) from ((f166 55 (by decide)).trans (congrFun (f54 55 (by decide)) 55))))
      have z233 : (σ163 47 0).toInt = (σ 47 0).toInt := (congrArg Int32.toInt (show σ163 47 0 = (σ 47 0) from ((congrFun (f165 47 (by decide)) 0).trans (congrFun (f54 47 (by decide)) 0))))
      have z234 : (σ163 55 47).toInt = (σ 55 47).toInt := (congrArg Int32.toInt (show σ163 55 47 = (σ 55 47) from ((f166 47 (by decide)).trans (congrFun (f54 55 (by decide)) 47))))
      have z235 : (σ163 55 30).toInt = (σ 55 30).toInt := (congrArg Int32.toInt (show σ163 55 30 = (σ 55 30) from ((f166 30 (by decide)).trans (congrFun (f54 55 (by decide)) 30))))
      have z236 : (σ163 55 31).toInt = (σ 55 31).toInt := (congrArg Int32.toInt (show σ163 55 31 = (σ 55 31) from ((f166 31 (by decide)).trans (congrFun (f54 55 (by decide)) 31))))
      have z237 : (σ163 2 1).toInt = (σ 2 1).toInt := (congrArg Int32.toInt (show σ163 2 1 = (σ 2 1) from ((congrFun (f165 2 (by decide)) 1).trans (congrFun (f54 2 (by decide)) 1))))
      have z238 : (σ163 55 9).toInt = (σ 55 9).toInt := (congrArg Int32.toInt (show σ163 55 9 = (σ 55 9) from ((f166 9 (by decide)).trans (congrFun (f54 55 (by decide)) 9))))
      have z239 : (σ163 26 6).toInt = (σ 26 6).toInt := (congrArg Int32.toInt (show σ163 26 6 = (σ 26 6) from ((congrFun (f165 26 (by decide)) 6).trans (congrFun (f54 26 (by decide)) 6))))
      have z241 : (σ163 18 0).toInt = (σ 18 0).toInt := (congrArg Int32.toInt (show σ163 18 0 = (σ 18 0) from ((congrFun (f165 18 (by decide)) 0).trans (congrFun (f54 18 (by decide)) 0))))
      have z242 : (σ163 22 0).toInt = (σ 22 0).toInt := (congrArg Int32.toInt (show σ163 22 0 = (σ 22 0) from ((congrFun (f165 22 (by decide)) 0).trans (congrFun (f54 22 (by decide)) 0))))
      exact ih x183 σ163 τ _ _ ls (by have h9 := tx183; omega) ⟨I184, I185, I186, I187, I188, I189, I190, I191, I192, I193, I194, I195, I196, I197, I198, I199, I200, I167, I201, I202, I203, I204, I205, I206, p207, p208, p209, p210, p211, p212, p213, p214, p215, (by omega), (by omega), (by omega), (by omega), (by omega), (by omega), (by omega), (by omega), (by omega), (by omega), (by omega), (by omega), (by omega), (by have h9 := tx183; omega), (show jNumP (σ163 3) (σ163 56) (σ163 6) (σ163 57) (σ163 7) (σ163 58) (σ163 8) (σ163 59) (σ163 55 6).toInt (σ163 55 4).toInt by rw [show σ163 3 = σ 3 from ((f165 3 (by decide)).trans (f54 3 (by decide))), show σ163 56 = σ 56 from ((f165 56 (by decide)).trans (f54 56 (by decide))), show σ163 6 = σ 6 from ((f165 6 (by decide)).trans (f54 6 (by decide))), show σ163 57 = σ 57 from ((f165 57 (by decide)).trans (f54 57 (by decide))), show σ163 7 = σ 7 from ((f165 7 (by decide)).trans (f54 7 (by decide))), show σ163 58 = σ 58 from ((f165 58 (by decide)).trans (f54 58 (by decide))), show σ163 8 = σ 8 from ((f165 8 (by decide)).trans (f54 8 (by decide))), show σ163 59 = σ 59 from ((f165 59 (by decide)).trans (f54 59 (by decide))), show (σ163 55 6).toInt = (σ 55 6).toInt from by omega, show (σ163 55 4).toInt = (σ 55 4).toInt from by omega]; exact hr0), (show jOvP (σ163 56) (σ163 57) (σ163 58) (σ163 59) (σ163 55 4).toInt by rw [show σ163 56 = σ 56 from ((f165 56 (by decide)).trans (f54 56 (by decide))), show σ163 57 = σ 57 from ((f165 57 (by decide)).trans (f54 57 (by decide))), show σ163 58 = σ 58 from ((f165 58 (by decide)).trans (f54 58 (by decide))), show σ163 59 = σ 59 from ((f165 59 (by decide)).trans (f54 59 (by decide))), show (σ163 55 4).toInt = (σ 55 4).toInt from by omega]; exact hr1), (show jTp (σ163 10) (σ163 63) (σ163 55 15).toInt by rw [show σ163 10 = σ 10 from ((f165 10 (by decide)).trans k159), show σ163 63 = σ 63 from (k181.trans (f54 63 (by decide)))]; exact hr2.le (by omega)), (show jSo (σ163 17) (σ163 62) (σ163 16 0).toInt by rw [show σ163 17 = σ 17 from ((f165 17 (by decide)).trans (f54 17 (by decide))), show σ163 62 = σ 62 from ((f165 62 (by decide)).trans (f54 62 (by decide))), show (σ163 16 0).toInt = (σ 16 0).toInt from by omega]; exact hr3), (show jShP (σ163 51) (σ163 52) (σ163 53) (σ163 86) (σ163 87) (σ163 55 32).toInt by rw [show σ163 51 = σ 51 from ((f165 51 (by decide)).trans (f54 51 (by decide))), show σ163 52 = σ 52 from ((f165 52 (by decide)).trans (f54 52 (by decide))), show σ163 53 = σ 53 from ((f165 53 (by decide)).trans (f54 53 (by decide))), show σ163 86 = σ 86 from ((f165 86 (by decide)).trans (f54 86 (by decide))), show σ163 87 = σ 87 from ((f165 87 (by decide)).trans (f54 87 (by decide)))]; exact (hr4.up (by omega) (by omega))), (show jEl (σ163 51) (σ163 52) (τ 54) (τ 88) by rw [show σ163 51 = σ 51 from ((f165 51 (by decide)).trans (f54 51 (by decide))), show σ163 52 = σ 52 from ((f165 52 (by decide)).trans (f54 52 (by decide)))]; exact hr5), (show jByP (σ163 51) (σ163 52) (τ 54) by rw [show σ163 51 = σ 51 from ((f165 51 (by decide)).trans (f54 51 (by decide))), show σ163 52 = σ 52 from ((f165 52 (by decide)).trans (f54 52 (by decide)))]; exact hr6), (show jBk (σ163 48) (σ163 80) (σ163 49) (σ163 81) (σ163 55 47).toInt by rw [show σ163 48 = σ 48 from ((f165 48 (by decide)).trans (f54 48 (by decide))), show σ163 49 = σ 49 from ((f165 49 (by decide)).trans (f54 49 (by decide))), show σ163 80 = σ 80 from ((f165 80 (by decide)).trans (f54 80 (by decide))), show σ163 81 = σ 81 from ((f165 81 (by decide)).trans (f54 81 (by decide))), show (σ163 55 47).toInt = (σ 55 47).toInt from by omega]; exact hr7), (show jKd (σ163 39) (σ163 70) (σ163 55 32).toInt by rw [show σ163 39 = σ 39 from ((f165 39 (by decide)).trans (f54 39 (by decide))), show σ163 70 = σ 70 from ((f165 70 (by decide)).trans (f54 70 (by decide))), show (σ163 55 32).toInt = (σ 55 32).toInt from by omega]; exact hr8), (show jTt (σ163 42) (σ163 85) (σ163 55 55).toInt by rw [show σ163 42 = σ 42 from ((f165 42 (by decide)).trans (f54 42 (by decide))), show σ163 85 = σ 85 from ((f165 85 (by decide)).trans (f54 85 (by decide))), show (σ163 55 55).toInt = (σ 55 55).toInt from by omega]; exact hr9), (fun k hk => by rw [show σ163 4 = σ 4 from ((f165 4 (by decide)).trans (f54 4 (by decide))), show σ163 5 = σ 5 from ((f165 5 (by decide)).trans (f54 5 (by decide))), show σ163 60 = σ 60 from ((f165 60 (by decide)).trans (f54 60 (by decide))), show σ163 61 = σ 61 from ((f165 61 (by decide)).trans (f54 61 (by decide)))]; exact hr10 k (by omega)), (fun nm => by rw [show σ163 19 = σ 19 from ((f165 19 (by decide)).trans (f54 19 (by decide))), show σ163 64 = σ 64 from ((f165 64 (by decide)).trans (f54 64 (by decide))), show σ163 65 = σ 65 from ((f165 65 (by decide)).trans (f54 65 (by decide))), show (σ163 18 0).toInt = (σ 18 0).toInt from by omega]; exact hr11 nm), (fun nm => by rw [show σ163 23 = σ 23 from ((f165 23 (by decide)).trans (f54 23 (by decide))), show σ163 64 = σ 64 from ((f165 64 (by decide)).trans (f54 64 (by decide))), show σ163 65 = σ 65 from ((f165 65 (by decide)).trans (f54 65 (by decide))), show (σ163 22 0).toInt = (σ 22 0).toInt from by omega]; exact hr12 nm)⟩ hP hS (lv_sub hl [0, 1, 2, 3] rfl)
    · obtain ⟨q248, k243, k244, k245, k246, k247⟩ := h173
      exact absurd (by omega : False) id
  · obtain ⟨q254, k249, k250, k251, k252, k253⟩ := h63
    refine lv_pop hx hb dL_law_362 rfl ?_
    refine lv_aload_n hx hb dL_law_363 rfl (lv_at hl 1 rfl) ?_
    refine lv_aload_n hx hb dL_law_364 rfl (lv_at hl 3 rfl) ?_
    refine lv_iload_n hx hb dL_law_365 rfl (lv_at hl 0 rfl) ?_
    refine lv_iconst (v := 1) hx hb dL_law_366 (by decide) ?_
    refine lv_iadd hx hb dL_law_367 ?_
    refine jtopr ex48.symm ?_
    refine va_sld hx hb hX hbl hbA hS (jin tx48 (by omega) (by omega)) dL_law_368 ?_
    refine lv_aload_n hx hb dL_law_369 rfl (lv_at hl 3 rfl) ?_
    refine lv_iload_n hx hb dL_law_370 rfl (lv_at hl 0 rfl) ?_
    refine lv_iconst (v := 2) hx hb dL_law_371 (by decide) ?_
    refine lv_iadd hx hb dL_law_372 ?_
    refine jtopr ex50.symm ?_
    refine va_sld hx hb hX hbl hbA hS (jin tx50 (by omega) (by omega)) dL_law_373 ?_
    have I255 : jI105 σ52 := jI105_fr (congrFun (f54 55 (by decide)) 15) (f54 65 (by decide)) hI105
    have z256 : (σ52 55 15).toInt = (σ 55 15).toInt := (congrArg Int32.toInt (show σ52 55 15 = (σ 55 15) from (congrFun (f54 55 (by decide)) 15)))
    refine jcallV (As := [.int (xs x48.toNatClampNeg), .int (xs x50.toNatClampNeg)]) (rest := []) ⟨hx, hb, hml, hown, hts⟩ hK hP hA hS hZ (c_X12_feed l D cI cL ad zz hJ σ52 τ (xs x48.toNatClampNeg) ((xs x48.toNatClampNeg).toInt) rfl (xs x50.toNatClampNeg) ((xs x50.toNatClampNeg).toInt) rfl I255) cw_RL_35 (jc_55 cI cL ad σ52 τ) rfl ⟨Nat.le_of_ble_eq_true rfl, Nat.le_of_ble_eq_true rfl⟩ rfl rfl rfl hl.1 rfl (Nat.le_of_ble_eq_true rfl) dL_law_374 ⟨Nat.le_of_ble_eq_true rfl, Nat.le_of_ble_eq_true rfl⟩ (fun r258 σ257 τ257 H locs h257 hP hS => ?_)
    obtain ⟨rfl, f259, f260, I261, h257⟩ := h257
    obtain ⟨i263, w264⟩ : (0 ≤ (σ257 55 15).toInt ∧ (σ257 55 15).toInt ≤ 80) ∧ (∀ k : Nat, k < 2 → (-1) ≤ (σ257 65 k).toInt ∧ (σ257 65 k).toInt ≤ 80) := id I261
    rcases h257 with h265 | h266 | h267
    · obtain ⟨q271, k268, k269, k270⟩ := h265
      exact absurd (by omega : False) id
    · obtain ⟨q276, k272, k273, k274, k275⟩ := h266
      exact absurd (by omega : False) id
    · obtain ⟨q282, k277, k278, k279, k280, k281⟩ := h267
      refine lv_pop hx hb dL_law_377 rfl ?_
      refine lv_goto (tgt := 1357) hx hb dL_law_378 (by decide) ?_
      obtain ⟨x283, ex283⟩ : ∃ y : Int32, y = x0 + 6 := ⟨_, rfl⟩
      have tx283 : x283.toInt = x0.toInt + 6 := (jadd ex283 rfl jz_6 (by omega) (by omega)).trans (by omega)
      refine lv_iinc (v := x283) (lv' := [(3, .int x283), (2, .ref (ad 55)), (1, .ref (ad 0)), (0, .ref b)]) hx hb dL_law_1357 hl (k := 0) rfl (by rw [ex283]; rfl) (by decide) rfl (fun ls hl => ?_)
      refine lv_goto (tgt := 18) hx hb dL_law_1360 (by decide) ?_
      have I284 : jI2 σ257 := jI2_fr ((congrFun (f259 2 (by decide)) 0).trans (congrFun (f54 2 (by decide)) 0)) ((congrFun (f259 2 (by decide)) 1).trans (congrFun (f54 2 (by decide)) 1)) ((congrFun (f259 2 (by decide)) 2).trans (congrFun (f54 2 (by decide)) 2)) ((congrFun (f259 2 (by decide)) 3).trans (congrFun (f54 2 (by decide)) 3)) ((f259 6 (by decide)).trans (f54 6 (by decide))) hI2
      have I285 : jI9 σ257 := jI9_fr (congrFun (f259 9 (by decide)) 0) (f259 10 (by decide)) (f259 11 (by decide)) I56
      have I286 : jI12 σ257 := jI12_fr ((congrFun (f259 12 (by decide)) 0).trans (congrFun (f54 12 (by decide)) 0)) ((f259 13 (by decide)).trans (f54 13 (by decide))) hI12
      have I287 : jI16 σ257 := jI16_fr ((congrFun (f259 16 (by decide)) 0).trans (congrFun (f54 16 (by decide)) 0)) ((congrFun (f259 16 (by decide)) 1).trans (congrFun (f54 16 (by decide)) 1)) ((congrFun (f259 16 (by decide)) 2).trans (congrFun (f54 16 (by decide)) 2)) ((f259 17 (by decide)).trans (f54 17 (by decide))) hI16
      have I288 : jI18 σ257 := jI18_fr ((congrFun (f259 18 (by decide)) 0).trans (congrFun (f54 18 (by decide)) 0)) ((f259 19 (by decide)).trans (f54 19 (by decide))) hI18
      have I289 : jI22 σ257 := jI22_fr ((congrFun (f259 22 (by decide)) 0).trans (congrFun (f54 22 (by decide)) 0)) ((f259 23 (by decide)).trans (f54 23 (by decide))) hI22
      have I290 : jI31 σ257 := jI31_fr ((congrFun (f259 31 (by decide)) 8).trans (congrFun (f54 31 (by decide)) 8)) ((congrFun (f259 31 (by decide)) 10).trans (congrFun (f54 31 (by decide)) 10)) ((congrFun (f259 31 (by decide)) 11).trans (congrFun (f54 31 (by decide)) 11)) ((f259 33 (by decide)).trans (f54 33 (by decide))) ((f259 35 (by decide)).trans (f54 35 (by decide))) ((f259 36 (by decide)).trans (f54 36 (by decide))) hI31
      have I291 : jI38 σ257 := jI38_fr ((congrFun (f259 38 (by decide)) 0).trans (congrFun (f54 38 (by decide)) 0)) ((congrFun (f259 38 (by decide)) 1).trans (congrFun (f54 38 (by decide)) 1)) ((f259 39 (by decide)).trans (f54 39 (by decide))) hI38
      have I292 : jI43 σ257 := jI43_fr ((congrFun (f259 43 (by decide)) 8).trans (congrFun (f54 43 (by decide)) 8)) hI43
      have I293 : jI47 σ257 := jI47_fr ((congrFun (f259 47 (by decide)) 0).trans (congrFun (f54 47 (by decide)) 0)) ((f259 48 (by decide)).trans (f54 48 (by decide))) ((f259 49 (by decide)).trans (f54 49 (by decide))) hI47
      have I294 : jI50 σ257 := jI50_fr ((f259 52 (by decide)).trans (f54 52 (by decide))) hI50
      have I295 : jI0 σ257 := jI0_fr ((f259 1 (by decide)).trans (f54 1 (by decide))) hI0
      have I296 : jI26 σ257 := jI26_fr ((congrFun (f259 26 (by decide)) 6).trans (congrFun (f54 26 (by decide)) 6)) hI26
      have I297 : jI101 σ257 := jI101_fr ((f260 4 (by decide)).trans (congrFun (f54 55 (by decide)) 4)) ((f260 5 (by decide)).trans (congrFun (f54 55 (by decide)) 5)) ((f259 56 (by decide)).trans (f54 56 (by decide))) ((f259 57 (by decide)).trans (f54 57 (by decide))) ((f259 58 (by decide)).trans (f54 58 (by decide))) ((f259 59 (by decide)).trans (f54 59 (by decide))) hI101
      have I298 : jI102 σ257 := jI102_fr ((f260 6 (by decide)).trans (congrFun (f54 55 (by decide)) 6)) ((f259 60 (by decide)).trans (f54 60 (by decide))) ((f259 61 (by decide)).trans (f54 61 (by decide))) hI102
      have I299 : jI103 σ257 := jI103_fr ((f260 9 (by decide)).trans (congrFun (f54 55 (by decide)) 9)) hI103
      have I300 : jI104 σ257 := jI104_fr ((f260 10 (by decide)).trans (congrFun (f54 55 (by decide)) 10)) ((f260 12 (by decide)).trans (congrFun (f54 55 (by decide)) 12)) ((f260 13 (by decide)).trans (congrFun (f54 55 (by decide)) 13)) ((f259 62 (by decide)).trans (f54 62 (by decide))) ((f259 67 (by decide)).trans (f54 67 (by decide))) hI104
      have I301 : jI106 σ257 := jI106_fr ((f260 32 (by decide)).trans (congrFun (f54 55 (by decide)) 32)) ((f259 70 (by decide)).trans (f54 70 (by decide))) ((f259 71 (by decide)).trans (f54 71 (by decide))) ((f259 72 (by decide)).trans (f54 72 (by decide))) hI106
      have I302 : jI107 σ257 := jI107_fr ((f260 12 (by decide)).trans (congrFun (f54 55 (by decide)) 12)) ((f260 47 (by decide)).trans (congrFun (f54 55 (by decide)) 47)) ((f259 80 (by decide)).trans (f54 80 (by decide))) hI107
      have I303 : jI109 σ257 := jI109_fr ((f260 50 (by decide)).trans (congrFun (f54 55 (by decide)) 50)) hI109
      have I304 : jI110 σ257 := jI110_fr ((f259 86 (by decide)).trans (f54 86 (by decide))) ((f259 87 (by decide)).trans (f54 87 (by decide))) hI110
      have I305 : jI111 σ257 := jI111_fr ((f259 79 (by decide)).trans (f54 79 (by decide))) hI111
      have I306 : jI119 σ257 := jI119_fr ((f259 68 (by decide)).trans (f54 68 (by decide))) hI119
      have p307 : jKept σ257 := jKept.fr ((f259 75 (by decide)).trans (f54 75 (by decide))) ((f259 76 (by decide)).trans (f54 76 (by decide))) ((f259 77 (by decide)).trans (f54 77 (by decide))) hs_jKept
      have p308 : jBook σ257 := jBook.fr ((f260 47 (by decide)).trans (congrFun (f54 55 (by decide)) 47)) ((f260 10 (by decide)).trans (congrFun (f54 55 (by decide)) 10)) ((f259 81 (by decide)).trans (f54 81 (by decide))) hs_jBook
      have p309 : jNd12 σ257 := jNd12.fr ((congrFun (f259 12 (by decide)) 0).trans (congrFun (f54 12 (by decide)) 0)) ((congrFun (f259 12 (by decide)) 1).trans (congrFun (f54 12 (by decide)) 1)) ((f259 13 (by decide)).trans (f54 13 (by decide))) hs_jNd12
      have p310 : jN67 σ257 := jN67.fr ((f259 24 (by decide)).trans (f54 24 (by decide))) hs_jN67
      have p311 : jBl σ257 := jBl.fr ((congrFun (f259 22 (by decide)) 0).trans (congrFun (f54 22 (by decide)) 0)) ((congrFun (f259 22 (by decide)) 1).trans (congrFun (f54 22 (by decide)) 1)) ((f259 23 (by decide)).trans (f54 23 (by decide))) ((congrFun (f259 26 (by decide)) 6).trans (congrFun (f54 26 (by decide)) 6)) ((congrFun (f259 26 (by decide)) 7).trans (congrFun (f54 26 (by decide)) 7)) ((f259 29 (by decide)).trans (f54 29 (by decide))) ((f259 30 (by decide)).trans (f54 30 (by decide))) hs_jBl
      have p312 : jKb σ257 := jKb.fr ((congrFun (f259 31 (by decide)) 8).trans (congrFun (f54 31 (by decide)) 8)) ((congrFun (f259 31 (by decide)) 11).trans (congrFun (f54 31 (by decide)) 11)) ((f259 32 (by decide)).trans (f54 32 (by decide))) hs_jKb
      have p313 : jTR σ257 := jTR.fr ((f259 64 (by decide)).trans (f54 64 (by decide))) ((f259 65 (by decide)).trans (f54 65 (by decide))) hs_jTR
      have p314 : jKh σ257 := jKh.fr ((congrFun (f259 31 (by decide)) 8).trans (congrFun (f54 31 (by decide)) 8)) ((f259 32 (by decide)).trans (f54 32 (by decide))) ((f259 36 (by decide)).trans (f54 36 (by decide))) ((f259 37 (by decide)).trans (f54 37 (by decide))) hs_jKh
      have p315 : jKg σ257 := jKg.fr ((congrFun (f259 31 (by decide)) 8).trans (congrFun (f54 31 (by decide)) 8)) ((congrFun (f259 31 (by decide)) 9).trans (congrFun (f54 31 (by decide)) 9)) ((congrFun (f259 31 (by decide)) 11).trans (congrFun (f54 31 (by decide)) 11)) ((congrFun (f259 31 (by decide)) 12).trans (congrFun (f54 31 (by decide)) 12)) ((f259 32 (by decide)).trans (f54 32 (by decide))) ((f259 33 (by decide)).trans (f54 33 (by decide))) hs_jKg
      have z316 : (σ257 2 0).toInt = (σ 2 0).toInt := (congrArg Int32.toInt (show σ257 2 0 = (σ 2 0) from ((congrFun (f259 2 (by decide)) 0).trans (congrFun (f54 2 (by decide)) 0))))
      have z317 : (σ257 55 6).toInt = (σ 55 6).toInt := (congrArg Int32.toInt (show σ257 55 6 = (σ 55 6) from ((f260 6 (by decide)).trans (congrFun (f54 55 (by decide)) 6))))
      have z318 : (σ257 2 2).toInt = (σ 2 2).toInt := (congrArg Int32.toInt (show σ257 2 2 = (σ 2 2) from ((congrFun (f259 2 (by decide)) 2).trans (congrFun (f54 2 (by decide)) 2))))
      have z319 : (σ257 55 5).toInt = (σ 55 5).toInt := (congrArg Int32.toInt (show σ257 55 5 = (σ 55 5) from ((f260 5 (by decide)).trans (congrFun (f54 55 (by decide)) 5))))
      have z320 : (σ257 2 3).toInt = (σ 2 3).toInt := (congrArg Int32.toInt (show σ257 2 3 = (σ 2 3) from ((congrFun (f259 2 (by decide)) 3).trans (congrFun (f54 2 (by decide)) 3))))
      have z321 : (σ257 55 4).toInt = (σ 55 4).toInt := (congrArg Int32.toInt (show σ257 55 4 = (σ 55 4) from ((f260 4 (by decide)).trans (congrFun (f54 55 (by decide)) 4))))
      have z322 : (σ257 9 0).toInt = (σ52 9 0).toInt := (congrArg Int32.toInt (show σ257 9 0 = (σ52 9 0) from (congrFun (f259 9 (by decide)) 0)))
      have z323 : (σ257 16 0).toInt = (σ 16 0).toInt := (congrArg Int32.toInt (show σ257 16 0 = (σ 16 0) from ((congrFun (f259 16 (by decide)) 0).trans (congrFun (f54 16 (by decide)) 0))))
      have z324 : (σ257 55 10).toInt = (σ 55 10).toInt := (congrArg Int32.toInt (show σ257 55 10 = (σ 55 10) from ((f260 10 (by decide)).trans (congrFun (f54 55 (by decide)) 10))))
      have z325 : (σ257 16 1).toInt = (σ 16 1).toInt := (congrArg Int32.toInt (show σ257 16 1 = (σ 16 1) from ((congrFun (f259 16 (by decide)) 1).trans (congrFun (f54 16 (by decide)) 1))))
      have z326 : (σ257 55 12).toInt = (σ 55 12).toInt := (congrArg Int32.toInt (show σ257 55 12 = (σ 55 12) from ((f260 12 (by decide)).trans (congrFun (f54 55 (by decide)) 12))))
      have z327 : (σ257 16 2).toInt = (σ 16 2).toInt := (congrArg Int32.toInt (show σ257 16 2 = (σ 16 2) from ((congrFun (f259 16 (by decide)) 2).trans (congrFun (f54 16 (by decide)) 2))))
      have z328 : (σ257 55 13).toInt = (σ 55 13).toInt := (congrArg Int32.toInt (show σ257 55 13 = (σ 55 13) from ((f260 13 (by decide)).trans (congrFun (f54 55 (by decide)) 13))))
      have z329 : (σ257 38 0).toInt = (σ 38 0).toInt := (congrArg Int32.toInt (show σ257 38 0 = (σ 38 0) from ((congrFun (f259 38 (by decide)) 0).trans (congrFun (f54 38 (by decide)) 0))))
      have z330 : (σ257 55 32).toInt = (σ 55 32).toInt := (congrArg Int32.toInt (show σ257 55 32 = (σ 55 32) from ((f260 32 (by decide)).trans (congrFun (f54 55 (by decide)) 32))))
      have z331 : (σ257 38 1).toInt = (σ 38 1).toInt := (congrArg Int32.toInt (show σ257 38 1 = (σ 38 1) from ((congrFun (f259 38 (by decide)) 1).trans (congrFun (f54 38 (by decide)) 1))))
      have z332 : (σ257 55 55).toInt = (σ 55 55).toInt := (congrArg Int32.toInt (show σ257 55 55 = (σ 55 55) from ((f260 55 (by decide)).trans (congrFun (f54 55 (by decide)) 55))))
      have z333 : (σ257 47 0).toInt = (σ 47 0).toInt := (congrArg Int32.toInt (show σ257 47 0 = (σ 47 0) from ((congrFun (f259 47 (by decide)) 0).trans (congrFun (f54 47 (by decide)) 0))))
      have z334 : (σ257 55 47).toInt = (σ 55 47).toInt := (congrArg Int32.toInt (show σ257 55 47 = (σ 55 47) from ((f260 47 (by decide)).trans (congrFun (f54 55 (by decide)) 47))))
      have z335 : (σ257 55 30).toInt = (σ 55 30).toInt := (congrArg Int32.toInt (show σ257 55 30 = (σ 55 30) from ((f260 30 (by decide)).trans (congrFun (f54 55 (by decide)) 30))))
      have z336 : (σ257 55 31).toInt = (σ 55 31).toInt := (congrArg Int32.toInt (show σ257 55 31 = (σ 55 31) from ((f260 31 (by decide)).trans (congrFun (f54 55 (by decide)) 31))))
      have z337 : (σ257 2 1).toInt = (σ 2 1).toInt := (congrArg Int32.toInt (show σ257 2 1 = (σ 2 1) from ((congrFun (f259 2 (by decide)) 1).trans (congrFun (f54 2 (by decide)) 1))))
      have z338 : (σ257 55 9).toInt = (σ 55 9).toInt := (congrArg Int32.toInt (show σ257 55 9 = (σ 55 9) from ((f260 9 (by decide)).trans (congrFun (f54 55 (by decide)) 9))))
      have z339 : (σ257 26 6).toInt = (σ 26 6).toInt := (congrArg Int32.toInt (show σ257 26 6 = (σ 26 6) from ((congrFun (f259 26 (by decide)) 6).trans (congrFun (f54 26 (by decide)) 6))))
      rw [show (σ 9 0).toInt = (σ 55 15).toInt from by omega] at k253
      rw [show (σ52 55 15).toInt = (σ 55 15).toInt from by omega, show σ52 63 = σ 63 from (f54 63 (by decide))] at k281
      have z341 : (σ257 18 0).toInt = (σ 18 0).toInt := (congrArg Int32.toInt (show σ257 18 0 = (σ 18 0) from ((congrFun (f259 18 (by decide)) 0).trans (congrFun (f54 18 (by decide)) 0))))
      have z342 : (σ257 22 0).toInt = (σ 22 0).toInt := (congrArg Int32.toInt (show σ257 22 0 = (σ 22 0) from ((congrFun (f259 22 (by decide)) 0).trans (congrFun (f54 22 (by decide)) 0))))
      exact ih x283 σ257 τ _ _ ls (by have h9 := tx283; omega) ⟨I284, I285, I286, I287, I288, I289, I290, I291, I292, I293, I294, I295, I296, I297, I298, I299, I300, I261, I301, I302, I303, I304, I305, I306, p307, p308, p309, p310, p311, p312, p313, p314, p315, (by omega), (by omega), (by omega), (by omega), (by omega), (by omega), (by omega), (by omega), (by omega), (by omega), (by omega), (by omega), (by omega), (by have h9 := tx283; omega), (show jNumP (σ257 3) (σ257 56) (σ257 6) (σ257 57) (σ257 7) (σ257 58) (σ257 8) (σ257 59) (σ257 55 6).toInt (σ257 55 4).toInt by rw [show σ257 3 = σ 3 from ((f259 3 (by decide)).trans (f54 3 (by decide))), show σ257 56 = σ 56 from ((f259 56 (by decide)).trans (f54 56 (by decide))), show σ257 6 = σ 6 from ((f259 6 (by decide)).trans (f54 6 (by decide))), show σ257 57 = σ 57 from ((f259 57 (by decide)).trans (f54 57 (by decide))), show σ257 7 = σ 7 from ((f259 7 (by decide)).trans (f54 7 (by decide))), show σ257 58 = σ 58 from ((f259 58 (by decide)).trans (f54 58 (by decide))), show σ257 8 = σ 8 from ((f259 8 (by decide)).trans (f54 8 (by decide))), show σ257 59 = σ 59 from ((f259 59 (by decide)).trans (f54 59 (by decide))), show (σ257 55 6).toInt = (σ 55 6).toInt from by omega, show (σ257 55 4).toInt = (σ 55 4).toInt from by omega]; exact hr0), (show jOvP (σ257 56) (σ257 57) (σ257 58) (σ257 59) (σ257 55 4).toInt by rw [show σ257 56 = σ 56 from ((f259 56 (by decide)).trans (f54 56 (by decide))), show σ257 57 = σ 57 from ((f259 57 (by decide)).trans (f54 57 (by decide))), show σ257 58 = σ 58 from ((f259 58 (by decide)).trans (f54 58 (by decide))), show σ257 59 = σ 59 from ((f259 59 (by decide)).trans (f54 59 (by decide))), show (σ257 55 4).toInt = (σ 55 4).toInt from by omega]; exact hr1), (show jTp (σ257 10) (σ257 63) (σ257 55 15).toInt by rw [show σ257 10 = σ52 10 from (f259 10 (by decide))]; exact hr2.feed k253 k281 (by omega) (by omega) (by omega)), (show jSo (σ257 17) (σ257 62) (σ257 16 0).toInt by rw [show σ257 17 = σ 17 from ((f259 17 (by decide)).trans (f54 17 (by decide))), show σ257 62 = σ 62 from ((f259 62 (by decide)).trans (f54 62 (by decide))), show (σ257 16 0).toInt = (σ 16 0).toInt from by omega]; exact hr3), (show jShP (σ257 51) (σ257 52) (σ257 53) (σ257 86) (σ257 87) (σ257 55 32).toInt by rw [show σ257 51 = σ 51 from ((f259 51 (by decide)).trans (f54 51 (by decide))), show σ257 52 = σ 52 from ((f259 52 (by decide)).trans (f54 52 (by decide))), show σ257 53 = σ 53 from ((f259 53 (by decide)).trans (f54 53 (by decide))), show σ257 86 = σ 86 from ((f259 86 (by decide)).trans (f54 86 (by decide))), show σ257 87 = σ 87 from ((f259 87 (by decide)).trans (f54 87 (by decide)))]; exact (hr4.up (by omega) (by omega))), (show jEl (σ257 51) (σ257 52) (τ 54) (τ 88) by rw [show σ257 51 = σ 51 from ((f259 51 (by decide)).trans (f54 51 (by decide))), show σ257 52 = σ 52 from ((f259 52 (by decide)).trans (f54 52 (by decide)))]; exact hr5), (show jByP (σ257 51) (σ257 52) (τ 54) by rw [show σ257 51 = σ 51 from ((f259 51 (by decide)).trans (f54 51 (by decide))), show σ257 52 = σ 52 from ((f259 52 (by decide)).trans (f54 52 (by decide)))]; exact hr6), (show jBk (σ257 48) (σ257 80) (σ257 49) (σ257 81) (σ257 55 47).toInt by rw [show σ257 48 = σ 48 from ((f259 48 (by decide)).trans (f54 48 (by decide))), show σ257 49 = σ 49 from ((f259 49 (by decide)).trans (f54 49 (by decide))), show σ257 80 = σ 80 from ((f259 80 (by decide)).trans (f54 80 (by decide))), show σ257 81 = σ 81 from ((f259 81 (by decide)).trans (f54 81 (by decide))), show (σ257 55 47).toInt = (σ 55 47).toInt from by omega]; exact hr7), (show jKd (σ257 39) (σ257 70) (σ257 55 32).toInt by rw [show σ257 39 = σ 39 from ((f259 39 (by decide)).trans (f54 39 (by decide))), show σ257 70 = σ 70 from ((f259 70 (by decide)).trans (f54 70 (by decide))), show (σ257 55 32).toInt = (σ 55 32).toInt from by omega]; exact hr8), (show jTt (σ257 42) (σ257 85) (σ257 55 55).toInt by rw [show σ257 42 = σ 42 from ((f259 42 (by decide)).trans (f54 42 (by decide))), show σ257 85 = σ 85 from ((f259 85 (by decide)).trans (f54 85 (by decide))), show (σ257 55 55).toInt = (σ 55 55).toInt from by omega]; exact hr9), (fun k hk => by rw [show σ257 4 = σ 4 from ((f259 4 (by decide)).trans (f54 4 (by decide))), show σ257 5 = σ 5 from ((f259 5 (by decide)).trans (f54 5 (by decide))), show σ257 60 = σ 60 from ((f259 60 (by decide)).trans (f54 60 (by decide))), show σ257 61 = σ 61 from ((f259 61 (by decide)).trans (f54 61 (by decide)))]; exact hr10 k (by omega)), (fun nm => by rw [show σ257 19 = σ 19 from ((f259 19 (by decide)).trans (f54 19 (by decide))), show σ257 64 = σ 64 from ((f259 64 (by decide)).trans (f54 64 (by decide))), show σ257 65 = σ 65 from ((f259 65 (by decide)).trans (f54 65 (by decide))), show (σ257 18 0).toInt = (σ 18 0).toInt from by omega]; exact hr11 nm), (fun nm => by rw [show σ257 23 = σ 23 from ((f259 23 (by decide)).trans (f54 23 (by decide))), show σ257 64 = σ 64 from ((f259 64 (by decide)).trans (f54 64 (by decide))), show σ257 65 = σ 65 from ((f259 65 (by decide)).trans (f54 65 (by decide))), show (σ257 22 0).toInt = (σ 22 0).toInt from by omega]; exact hr12 nm)⟩ hP hS (lv_sub hl [0, 1, 2, 3] rfl)
set_option maxHeartbeats 4000000 in
set_option maxRecDepth 100000 in
theorem law_case_5 {p : Program} {e : Env} {s : State} {m : MethodId} {below : List Frame} {meth : Method} {c : Code} (l : Launch) {b L : Nat} {xs : Nat → Int32} {D : va_G} {cI cL : ClassId} {ad zz : Nat → Nat} (C0 : lw_At p s m meth c b L xs) (hJ : jD ad) (hA : ∀ q, jA ad q → s.heap.size ≤ q) (hK : jK D cI cL s) (hZ : jZ zz (fun q : Nat => s.heap.size ≤ q) s s.heap) {x0 : Int32} (hx0 : 0 ≤ x0.toInt) (hxL : x0.toInt + 6 ≤ (L : Int)) (hL : L ≤ 384) {σ : Nat → Nat → Int32} {τ : Nat → Nat → Int64} {H : Heap} {locs : List Loc} (hS : va_S (fun q : Nat => s.heap.size ≤ q) s.heap H locs) {ls : Array Slot} (hAll : jAll x0.toInt σ τ) (hP : jH D cI cL ad σ τ H) (hl : lv_has ls 4 [(3, .int x0), (2, .ref (ad 55)), (1, .ref (ad 0)), (0, .ref b)]) (ih : ∀ (x1 : Int32) (σ : Nat → Nat → Int32) (τ : Nat → Nat → Int64) (H : Heap) (locs : List Loc) (ls : Array Slot), x1.toInt = x0.toInt + 6 → jAll x1.toInt σ τ → jH D cI cL ad σ τ H → va_S (fun q : Nat => s.heap.size ≤ q) s.heap H locs → lv_has ls 4 [(3, .int x1), (2, .ref (ad 55)), (1, .ref (ad 0)), (0, .ref b)] → W p l e room_1 s m #[Value.ref b] below meth c H locs 90 348600 (lw_Z below #[Value.ref b] s) (F0 m 18 ls [])) : W p l e room_1 s m #[Value.ref b] below meth c H locs 90 348600 (lw_Z below #[Value.ref b] s) (F0 m 381 ls []) := by
  obtain ⟨hx, hb, hr, hml, hown, hts0, hX, hbl, hlocks, hgv⟩ := C0
  have hts : ∀ w ∈ wsL_law, w.before #[Value.ref b] s = true := fun w h => hts0 w (wsL_law_in w h)
  have hbA : ¬ (fun q : Nat => s.heap.size ≤ q) b := Nat.not_le.mpr hbl
  have hown : s.vm.findClass RL = some m.cls := hown
  obtain ⟨hI2, hI9, hI12, hI16, hI18, hI22, hI31, hI38, hI43, hI47, hI50, hI0, hI26, hI101, hI102, hI103, hI104, hI105, hI106, hI107, hI109, hI110, hI111, hI119, hs_jKept, hs_jBook, hs_jNd12, hs_jN67, hs_jBl, hs_jKb, hs_jTR, hs_jKh, hs_jKg, ht0, ht1, ht2, ht3, ht4, ht5, ht6, ht7, ht8, ht9, ht10, ht11, ht12, ht13, hr0, hr1, hr2, hr3, hr4, hr5, hr6, hr7, hr8, hr9, hr10, hr11, hr12⟩ := hAll
  have hL9 : (L : Int) ≤ 384 := by omega
  obtain ⟨i1, i2, i3, i4, i5, w6⟩ : (0 ≤ (σ 2 0).toInt ∧ (σ 2 0).toInt ≤ 4) ∧ (0 ≤ (σ 2 1).toInt ∧ (σ 2 1).toInt ≤ 3) ∧ (0 ≤ (σ 2 2).toInt) ∧ (0 ≤ (σ 2 3).toInt) ∧ ((σ 2 2).toInt + (σ 2 3).toInt ≤ 40) ∧ (∀ k : Nat, k < 40 → 0 ≤ (σ 6 k).toInt ∧ (σ 6 k).toInt ≤ 67) := id hI2
  obtain ⟨i7, w8, w9⟩ : (0 ≤ (σ 9 0).toInt ∧ (σ 9 0).toInt ≤ 80) ∧ (∀ k : Nat, k < 80 → 0 ≤ (σ 10 k).toInt ∧ (σ 10 k).toInt ≤ 255) ∧ (∀ k : Nat, k < 8 → 0 ≤ (σ 11 k).toInt ∧ (σ 11 k).toInt ≤ 3) := id hI9
  obtain ⟨i10, i11, i12, w13⟩ : (1 ≤ (σ 16 0).toInt ∧ (σ 16 0).toInt ≤ 8) ∧ (1 ≤ (σ 16 1).toInt ∧ (σ 16 1).toInt ≤ 12) ∧ (0 ≤ (σ 16 2).toInt ∧ (σ 16 2).toInt ≤ 999) ∧ (∀ k : Nat, k < 8 → 0 ≤ (σ 17 k).toInt ∧ (σ 17 k).toInt ≤ 3) := id hI16
  obtain ⟨i14, i15, w16⟩ : (0 ≤ (σ 38 0).toInt ∧ (σ 38 0).toInt ≤ 20) ∧ (0 ≤ (σ 38 1).toInt ∧ (σ 38 1).toInt ≤ 1000) ∧ (∀ k : Nat, k < 20 → 0 ≤ (σ 39 k).toInt ∧ (σ 39 k).toInt ≤ 6) := id hI38
  obtain ⟨i17, w18, w19⟩ : (0 ≤ (σ 47 0).toInt ∧ (σ 47 0).toInt ≤ 12) ∧ (∀ k : Nat, k < 12 → 0 ≤ (σ 48 k).toInt ∧ (σ 48 k).toInt ≤ 3) ∧ (∀ k : Nat, k < 12 → 0 ≤ (σ 49 k).toInt ∧ (σ 49 k).toInt ≤ 1) := id hI47
  have w20 : ∀ k : Nat, k < 6 → 0 ≤ (σ 52 k).toInt ∧ (σ 52 k).toInt ≤ 60 := hI50
  have i21 : 1 ≤ (σ 26 6).toInt ∧ (σ 26 6).toInt ≤ 8000 := hI26
  obtain ⟨i22, i23, i24, w25, w26, w27, w28⟩ : (0 ≤ (σ 55 5).toInt) ∧ ((σ 55 5).toInt ≤ (σ 55 4).toInt) ∧ ((σ 55 4).toInt ≤ 40) ∧ (∀ k : Nat, k < 68 → (-200) ≤ (σ 56 k).toInt ∧ (σ 56 k).toInt ≤ 500) ∧ (∀ k : Nat, k < 40 → 0 ≤ (σ 57 k).toInt ∧ (σ 57 k).toInt ≤ 67) ∧ (∀ k : Nat, k < 40 → (-200) ≤ (σ 58 k).toInt ∧ (σ 58 k).toInt ≤ 500) ∧ (∀ k : Nat, k < 40 → (-200) ≤ (σ 59 k).toInt ∧ (σ 59 k).toInt ≤ 500) := id hI101
  obtain ⟨i29, w30, w31⟩ : (0 ≤ (σ 55 6).toInt ∧ (σ 55 6).toInt ≤ 4) ∧ (∀ k : Nat, k < 4 → 0 ≤ (σ 60 k).toInt ∧ (σ 60 k).toInt ≤ 50) ∧ (∀ k : Nat, k < 4 → 0 ≤ (σ 61 k).toInt ∧ (σ 61 k).toInt ≤ 20) := id hI102
  have i32 : 0 ≤ (σ 55 9).toInt ∧ (σ 55 9).toInt ≤ 3 := hI103
  obtain ⟨i33, i34, i35, w36, w37⟩ : (1 ≤ (σ 55 10).toInt ∧ (σ 55 10).toInt ≤ 8) ∧ (1 ≤ (σ 55 12).toInt ∧ (σ 55 12).toInt ≤ 12) ∧ (0 ≤ (σ 55 13).toInt ∧ (σ 55 13).toInt ≤ 999) ∧ (∀ k : Nat, k < 8 → 0 ≤ (σ 62 k).toInt ∧ (σ 62 k).toInt ≤ 3) ∧ (∀ k : Nat, k < 8 → 0 ≤ (σ 67 k).toInt ∧ (σ 67 k).toInt ≤ 3) := id hI104
  obtain ⟨i38, w39⟩ : (0 ≤ (σ 55 15).toInt ∧ (σ 55 15).toInt ≤ 80) ∧ (∀ k : Nat, k < 2 → (-1) ≤ (σ 65 k).toInt ∧ (σ 65 k).toInt ≤ 80) := id hI105
  obtain ⟨i40, w41, w42, w43⟩ : (0 ≤ (σ 55 32).toInt ∧ (σ 55 32).toInt ≤ 20) ∧ (∀ k : Nat, k < 20 → 0 ≤ (σ 70 k).toInt ∧ (σ 70 k).toInt ≤ 6) ∧ (∀ k : Nat, k < 20 → 0 ≤ (σ 71 k).toInt ∧ (σ 71 k).toInt ≤ 8) ∧ (∀ k : Nat, k < 160 → 0 ≤ (σ 72 k).toInt ∧ (σ 72 k).toInt ≤ 3) := id hI106
  obtain ⟨i44, i45, w46⟩ : (0 ≤ (σ 55 47).toInt ∧ (σ 55 47).toInt ≤ 12) ∧ ((σ 55 47).toInt ≤ (σ 55 12).toInt) ∧ (∀ k : Nat, k < 12 → 0 ≤ (σ 80 k).toInt ∧ (σ 80 k).toInt ≤ 3) := id hI107
  have hs_jOk3 : jOk3 σ := hr0.ok hr1.1
  refine lv_aload_n hx hb dL_law_381 rfl (lv_at hl 2 rfl) ?_
  refine jcallV (As := []) (rest := []) ⟨hx, hb, hml, hown, hts⟩ hK hP hA hS hZ (c_X11_order l D cI cL ad zz hJ σ τ hI9 hI16 hI47) cw_RL_36 (jc_0 cI cL ad σ τ) rfl ⟨Nat.le_of_ble_eq_true rfl, Nat.le_of_ble_eq_true rfl⟩ rfl rfl rfl hl.1 rfl (Nat.le_of_ble_eq_true rfl) dL_law_382 ⟨Nat.le_of_ble_eq_true rfl, Nat.le_of_ble_eq_true rfl⟩ (fun r48 σ47 τ47 H locs h47 hP hS => ?_)
  obtain ⟨rfl, f49, f50, f51, f52, I53, I54, I55, w56, h47⟩ := h47
  obtain ⟨i58, w59, w60⟩ : (0 ≤ (σ47 9 0).toInt ∧ (σ47 9 0).toInt ≤ 80) ∧ (∀ k : Nat, k < 80 → 0 ≤ (σ47 10 k).toInt ∧ (σ47 10 k).toInt ≤ 255) ∧ (∀ k : Nat, k < 8 → 0 ≤ (σ47 11 k).toInt ∧ (σ47 11 k).toInt ≤ 3) := id I53
  obtain ⟨i61, i62, i63, w64⟩ : (1 ≤ (σ47 16 0).toInt ∧ (σ47 16 0).toInt ≤ 8) ∧ (1 ≤ (σ47 16 1).toInt ∧ (σ47 16 1).toInt ≤ 12) ∧ (0 ≤ (σ47 16 2).toInt ∧ (σ47 16 2).toInt ≤ 999) ∧ (∀ k : Nat, k < 8 → 0 ≤ (σ47 17 k).toInt ∧ (σ47 17 k).toInt ≤ 3) := id I54
  obtain ⟨i65, w66, w67⟩ : (0 ≤ (σ47 47 0).toInt ∧ (σ47 47 0).toInt ≤ 12) ∧ (∀ k : Nat, k < 12 → 0 ≤ (σ47 48 k).toInt ∧ (σ47 48 k).toInt ≤ 3) ∧ (∀ k : Nat, k < 12 → 0 ≤ (σ47 49 k).toInt ∧ (σ47 49 k).toInt ≤ 1) := id I55
  obtain ⟨k68, h47⟩ := h47
  rcases h47 with h69 | h70
  · obtain ⟨q73, k71, k72⟩ := h69
    refine lv_pop hx hb dL_law_385 rfl ?_
    refine lv_aload_n hx hb dL_law_386 rfl (lv_at hl 1 rfl) ?_
    have I74 : jI104 σ47 := jI104_fr (congrFun (f49 55 (by decide)) 10) (congrFun (f49 55 (by decide)) 12) (congrFun (f49 55 (by decide)) 13) (f49 62 (by decide)) (f49 67 (by decide)) hI104
    have I75 : jI105 σ47 := jI105_fr (congrFun (f49 55 (by decide)) 15) (f49 65 (by decide)) hI105
    have I76 : jI107 σ47 := jI107_fr (congrFun (f49 55 (by decide)) 12) (congrFun (f49 55 (by decide)) 47) (f49 80 (by decide)) hI107
    have p77 : jBook σ47 := jBook.fr (congrFun (f49 55 (by decide)) 47) (congrFun (f49 55 (by decide)) 10) (f49 81 (by decide)) hs_jBook
    have z78 : (σ47 55 47).toInt = (σ 55 47).toInt := (congrArg Int32.toInt (show σ47 55 47 = (σ 55 47) from (congrFun (f49 55 (by decide)) 47)))
    refine jcallV (As := []) (rest := []) ⟨hx, hb, hml, hown, hts⟩ hK hP hA hS hZ (c_X12_order l D cI cL ad zz hJ σ47 τ I74 I75 I76 p77) cw_RL_40 (jc_55 cI cL ad σ47 τ) rfl ⟨Nat.le_of_ble_eq_true rfl, Nat.le_of_ble_eq_true rfl⟩ rfl rfl rfl hl.1 rfl (Nat.le_of_ble_eq_true rfl) dL_law_387 ⟨Nat.le_of_ble_eq_true rfl, Nat.le_of_ble_eq_true rfl⟩ (fun r80 σ79 τ79 H locs h79 hP hS => ?_)
    obtain ⟨rfl, f81, f82, I83, I84, I85, p86, w87, h79⟩ := h79
    obtain ⟨i89, i90, i91, w92, w93⟩ : (1 ≤ (σ79 55 10).toInt ∧ (σ79 55 10).toInt ≤ 8) ∧ (1 ≤ (σ79 55 12).toInt ∧ (σ79 55 12).toInt ≤ 12) ∧ (0 ≤ (σ79 55 13).toInt ∧ (σ79 55 13).toInt ≤ 999) ∧ (∀ k : Nat, k < 8 → 0 ≤ (σ79 62 k).toInt ∧ (σ79 62 k).toInt ≤ 3) ∧ (∀ k : Nat, k < 8 → 0 ≤ (σ79 67 k).toInt ∧ (σ79 67 k).toInt ≤ 3) := id I83
    obtain ⟨i94, w95⟩ : (0 ≤ (σ79 55 15).toInt ∧ (σ79 55 15).toInt ≤ 80) ∧ (∀ k : Nat, k < 2 → (-1) ≤ (σ79 65 k).toInt ∧ (σ79 65 k).toInt ≤ 80) := id I84
    obtain ⟨i96, i97, w98⟩ : (0 ≤ (σ79 55 47).toInt ∧ (σ79 55 47).toInt ≤ 12) ∧ ((σ79 55 47).toInt ≤ (σ79 55 12).toInt) ∧ (∀ k : Nat, k < 12 → 0 ≤ (σ79 80 k).toInt ∧ (σ79 80 k).toInt ≤ 3) := id I85
    have z99 : (σ47 55 10).toInt = (σ 55 10).toInt := (congrArg Int32.toInt (show σ47 55 10 = (σ 55 10) from (congrFun (f49 55 (by decide)) 10)))
    have z100 : (σ47 55 12).toInt = (σ 55 12).toInt := (congrArg Int32.toInt (show σ47 55 12 = (σ 55 12) from (congrFun (f49 55 (by decide)) 12)))
    have z101 : (σ47 55 13).toInt = (σ 55 13).toInt := (congrArg Int32.toInt (show σ47 55 13 = (σ 55 13) from (congrFun (f49 55 (by decide)) 13)))
    have z102 : (σ47 55 15).toInt = (σ 55 15).toInt := (congrArg Int32.toInt (show σ47 55 15 = (σ 55 15) from (congrFun (f49 55 (by decide)) 15)))
    rw [show (σ47 55 10).toInt = (σ 55 10).toInt from by omega, show (σ47 55 12).toInt = (σ 55 12).toInt from by omega, show (σ47 55 13).toInt = (σ 55 13).toInt from by omega, show (σ47 55 15).toInt = (σ 55 15).toInt from by omega, show σ47 63 = σ 63 from (f49 63 (by decide)), show σ47 62 = σ 62 from (f49 62 (by decide))] at w87
    rw [show (σ 9 0).toInt = (σ 55 15).toInt from by omega] at w56
    have p103 := hr2 |> fun h => jOrA.det h w56 w87 (by omega) (by omega) (by omega) hr3
    obtain ⟨k104, k105, k106, k107, p103⟩ := p103
    obtain ⟨k108, h79⟩ := h79
    rcases h79 with h109 | h110
    · obtain ⟨q113, k111, k112⟩ := h109
      refine lv_pop hx hb dL_law_390 rfl ?_
      refine lv_goto (tgt := 1357) hx hb dL_law_391 (by decide) ?_
      obtain ⟨x114, ex114⟩ : ∃ y : Int32, y = x0 + 6 := ⟨_, rfl⟩
      have tx114 : x114.toInt = x0.toInt + 6 := (jadd ex114 rfl jz_6 (by omega) (by omega)).trans (by omega)
      refine lv_iinc (v := x114) (lv' := [(3, .int x114), (2, .ref (ad 55)), (1, .ref (ad 0)), (0, .ref b)]) hx hb dL_law_1357 hl (k := 0) rfl (by rw [ex114]; rfl) (by decide) rfl (fun ls hl => ?_)
      refine lv_goto (tgt := 18) hx hb dL_law_1360 (by decide) ?_
      have I115 : jI2 σ79 := jI2_fr ((congrFun (f81 2 (by decide)) 0).trans (congrFun (f49 2 (by decide)) 0)) ((congrFun (f81 2 (by decide)) 1).trans (congrFun (f49 2 (by decide)) 1)) ((congrFun (f81 2 (by decide)) 2).trans (congrFun (f49 2 (by decide)) 2)) ((congrFun (f81 2 (by decide)) 3).trans (congrFun (f49 2 (by decide)) 3)) ((f81 6 (by decide)).trans (f49 6 (by decide))) hI2
      have I116 : jI9 σ79 := jI9_fr (congrFun (f81 9 (by decide)) 0) (f81 10 (by decide)) (f81 11 (by decide)) I53
      have I117 : jI12 σ79 := jI12_fr ((congrFun (f81 12 (by decide)) 0).trans (congrFun (f49 12 (by decide)) 0)) ((f81 13 (by decide)).trans (f49 13 (by decide))) hI12
      have I118 : jI16 σ79 := jI16_fr (congrFun (f81 16 (by decide)) 0) (congrFun (f81 16 (by decide)) 1) (congrFun (f81 16 (by decide)) 2) (f81 17 (by decide)) I54
      have I119 : jI18 σ79 := jI18_fr ((congrFun (f81 18 (by decide)) 0).trans (congrFun (f49 18 (by decide)) 0)) ((f81 19 (by decide)).trans (f49 19 (by decide))) hI18
      have I120 : jI22 σ79 := jI22_fr ((congrFun (f81 22 (by decide)) 0).trans (congrFun (f49 22 (by decide)) 0)) ((f81 23 (by decide)).trans (f49 23 (by decide))) hI22
      have I121 : jI31 σ79 := jI31_fr ((congrFun (f81 31 (by decide)) 8).trans (congrFun (f49 31 (by decide)) 8)) ((congrFun (f81 31 (by decide)) 10).trans (congrFun (f49 31 (by decide)) 10)) ((congrFun (f81 31 (by decide)) 11).trans (congrFun (f49 31 (by decide)) 11)) ((f81 33 (by decide)).trans (f49 33 (by decide))) ((f81 35 (by decide)).trans (f49 35 (by decide))) ((f81 36 (by decide)).trans (f49 36 (by decide))) hI31
      have I122 : jI38 σ79 := jI38_fr ((congrFun (f81 38 (by decide)) 0).trans (congrFun (f49 38 (by decide)) 0)) ((congrFun (f81 38 (by decide)) 1).trans (congrFun (f49 38 (by decide)) 1)) ((f81 39 (by decide)).trans (f49 39 (by decide))) hI38
      have I123 : jI43 σ79 := jI43_fr ((congrFun (f81 43 (by decide)) 8).trans (congrFun (f49 43 (by decide)) 8)) hI43
      have I124 : jI47 σ79 := jI47_fr (congrFun (f81 47 (by decide)) 0) (f81 48 (by decide)) (f81 49 (by decide)) I55
      have I125 : jI50 σ79 := jI50_fr ((f81 52 (by decide)).trans (f49 52 (by decide))) hI50
      have I126 : jI0 σ79 := jI0_fr ((f81 1 (by decide)).trans (f49 1 (by decide))) hI0
      have I127 : jI26 σ79 := jI26_fr ((congrFun (f81 26 (by decide)) 6).trans (congrFun (f49 26 (by decide)) 6)) hI26
      have I128 : jI101 σ79 := jI101_fr ((f82 4 (by decide)).trans (congrFun (f49 55 (by decide)) 4)) ((f82 5 (by decide)).trans (congrFun (f49 55 (by decide)) 5)) ((f81 56 (by decide)).trans (f49 56 (by decide))) ((f81 57 (by decide)).trans (f49 57 (by decide))) ((f81 58 (by decide)).trans (f49 58 (by decide))) ((f81 59 (by decide)).trans (f49 59 (by decide))) hI101
      have I129 : jI102 σ79 := jI102_fr ((f82 6 (by decide)).trans (congrFun (f49 55 (by decide)) 6)) ((f81 60 (by decide)).trans (f49 60 (by decide))) ((f81 61 (by decide)).trans (f49 61 (by decide))) hI102
      have I130 : jI103 σ79 := jI103_fr ((f82 9 (by decide)).trans (congrFun (f49 55 (by decide)) 9)) hI103
      have I131 : jI106 σ79 := jI106_fr ((f82 32 (by decide)).trans (congrFun (f49 55 (by decide)) 32)) ((f81 70 (by decide)).trans (f49 70 (by decide))) ((f81 71 (by decide)).trans (f49 71 (by decide))) ((f81 72 (by decide)).trans (f49 72 (by decide))) hI106
      have I132 : jI109 σ79 := jI109_fr ((f82 50 (by decide)).trans (congrFun (f49 55 (by decide)) 50)) hI109
      have I133 : jI110 σ79 := jI110_fr ((f81 86 (by decide)).trans (f49 86 (by decide))) ((f81 87 (by decide)).trans (f49 87 (by decide))) hI110
      have I134 : jI111 σ79 := jI111_fr ((f81 79 (by decide)).trans (f49 79 (by decide))) hI111
      have I135 : jI119 σ79 := jI119_fr ((f81 68 (by decide)).trans (f49 68 (by decide))) hI119
      have p136 : jKept σ79 := jKept.fr ((f81 75 (by decide)).trans (f49 75 (by decide))) ((f81 76 (by decide)).trans (f49 76 (by decide))) ((f81 77 (by decide)).trans (f49 77 (by decide))) hs_jKept
      have p137 : jNd12 σ79 := jNd12.fr ((congrFun (f81 12 (by decide)) 0).trans (congrFun (f49 12 (by decide)) 0)) ((congrFun (f81 12 (by decide)) 1).trans (congrFun (f49 12 (by decide)) 1)) ((f81 13 (by decide)).trans (f49 13 (by decide))) hs_jNd12
      have p138 : jN67 σ79 := jN67.fr ((f81 24 (by decide)).trans (f49 24 (by decide))) hs_jN67
      have p139 : jBl σ79 := jBl.fr ((congrFun (f81 22 (by decide)) 0).trans (congrFun (f49 22 (by decide)) 0)) ((congrFun (f81 22 (by decide)) 1).trans (congrFun (f49 22 (by decide)) 1)) ((f81 23 (by decide)).trans (f49 23 (by decide))) ((congrFun (f81 26 (by decide)) 6).trans (congrFun (f49 26 (by decide)) 6)) ((congrFun (f81 26 (by decide)) 7).trans (congrFun (f49 26 (by decide)) 7)) ((f81 29 (by decide)).trans (f49 29 (by decide))) ((f81 30 (by decide)).trans (f49 30 (by decide))) hs_jBl
      have p140 : jKb σ79 := jKb.fr ((congrFun (f81 31 (by decide)) 8).trans (congrFun (f49 31 (by decide)) 8)) ((congrFun (f81 31 (by decide)) 11).trans (congrFun (f49 31 (by decide)) 11)) ((f81 32 (by decide)).trans (f49 32 (by decide))) hs_jKb
      have p141 : jTR σ79 := jTR.fr ((f81 64 (by decide)).trans (f49 64 (by decide))) ((f81 65 (by decide)).trans (f49 65 (by decide))) hs_jTR
      have p142 : jKh σ79 := jKh.fr ((congrFun (f81 31 (by decide)) 8).trans (congrFun (f49 31 (by decide)) 8)) ((f81 32 (by decide)).trans (f49 32 (by decide))) ((f81 36 (by decide)).trans (f49 36 (by decide))) ((f81 37 (by decide)).trans (f49 37 (by decide))) hs_jKh
      have p143 : jKg σ79 := jKg.fr ((congrFun (f81 31 (by decide)) 8).trans (congrFun (f49 31 (by decide)) 8)) ((congrFun (f81 31 (by decide)) 9).trans (congrFun (f49 31 (by decide)) 9)) ((congrFun (f81 31 (by decide)) 11).trans (congrFun (f49 31 (by decide)) 11)) ((congrFun (f81 31 (by decide)) 12).trans (congrFun (f49 31 (by decide)) 12)) ((f81 32 (by decide)).trans (f49 32 (by decide))) ((f81 33 (by decide)).trans (f49 33 (by decide))) hs_jKg
      have z144 : (σ79 2 0).toInt = (σ 2 0).toInt := (congrArg Int32.toInt (show σ79 2 0 = (σ 2 0) from ((congrFun (f81 2 (by decide)) 0).trans (congrFun (f49 2 (by decide)) 0))))
      have z145 : (σ79 55 6).toInt = (σ 55 6).toInt := (congrArg Int32.toInt (show σ79 55 6 = (σ 55 6) from ((f82 6 (by decide)).trans (congrFun (f49 55 (by decide)) 6))))
      have z146 : (σ79 2 2).toInt = (σ 2 2).toInt := (congrArg Int32.toInt (show σ79 2 2 = (σ 2 2) from ((congrFun (f81 2 (by decide)) 2).trans (congrFun (f49 2 (by decide)) 2))))
      have z147 : (σ79 55 5).toInt = (σ 55 5).toInt := (congrArg Int32.toInt (show σ79 55 5 = (σ 55 5) from ((f82 5 (by decide)).trans (congrFun (f49 55 (by decide)) 5))))
      have z148 : (σ79 2 3).toInt = (σ 2 3).toInt := (congrArg Int32.toInt (show σ79 2 3 = (σ 2 3) from ((congrFun (f81 2 (by decide)) 3).trans (congrFun (f49 2 (by decide)) 3))))
      have z149 : (σ79 55 4).toInt = (σ 55 4).toInt := (congrArg Int32.toInt (show σ79 55 4 = (σ 55 4) from ((f82 4 (by decide)).trans (congrFun (f49 55 (by decide)) 4))))
      have z150 : (σ79 9 0).toInt = (σ47 9 0).toInt := (congrArg Int32.toInt (show σ79 9 0 = (σ47 9 0) from (congrFun (f81 9 (by decide)) 0)))
      have z151 : (σ79 16 0).toInt = (σ47 16 0).toInt := (congrArg Int32.toInt (show σ79 16 0 = (σ47 16 0) from (congrFun (f81 16 (by decide)) 0)))
      have z152 : (σ79 16 1).toInt = (σ47 16 1).toInt := (congrArg Int32.toInt (show σ79 16 1 = (σ47 16 1) from (congrFun (f81 16 (by decide)) 1)))
      have z153 : (σ79 16 2).toInt = (σ47 16 2).toInt := (congrArg Int32.toInt (show σ79 16 2 = (σ47 16 2) from (congrFun (f81 16 (by decide)) 2)))
      have z154 : (σ79 38 0).toInt = (σ 38 0).toInt := (congrArg Int32.toInt (show σ79 38 0 = (σ 38 0) from ((congrFun (f81 38 (by decide)) 0).trans (congrFun (f49 38 (by decide)) 0))))
      have z155 : (σ79 55 32).toInt = (σ 55 32).toInt := (congrArg Int32.toInt (show σ79 55 32 = (σ 55 32) from ((f82 32 (by decide)).trans (congrFun (f49 55 (by decide)) 32))))
      have z156 : (σ79 38 1).toInt = (σ 38 1).toInt := (congrArg Int32.toInt (show σ79 38 1 = (σ 38 1) from ((congrFun (f81 38 (by decide)) 1).trans (congrFun (f49 38 (by decide)) 1))))
      have z157 : (σ79 55 55).toInt = (σ 55 55).toInt := (congrArg Int32.toInt (show σ79 55 55 = (σ 55 55) from ((f82 55 (by decide)).trans (congrFun (f49 55 (by decide)) 55))))
      have z158 : (σ79 47 0).toInt = (σ47 47 0).toInt := (congrArg Int32.toInt (show σ79 47 0 = (σ47 47 0) from (congrFun (f81 47 (by decide)) 0)))
      have z159 : (σ79 55 30).toInt = (σ 55 30).toInt := (congrArg Int32.toInt (show σ79 55 30 = (σ 55 30) from ((f82 30 (by decide)).trans (congrFun (f49 55 (by decide)) 30))))
      have z160 : (σ79 55 31).toInt = (σ 55 31).toInt := (congrArg Int32.toInt (show σ79 55 31 = (σ 55 31) from ((f82 31 (by decide)).trans (congrFun (f49 55 (by decide)) 31))))
      have z161 : (σ79 2 1).toInt = (σ 2 1).toInt := (congrArg Int32.toInt (show σ79 2 1 = (σ 2 1) from ((congrFun (f81 2 (by decide)) 1).trans (congrFun (f49 2 (by decide)) 1))))
      have z162 : (σ79 55 9).toInt = (σ 55 9).toInt := (congrArg Int32.toInt (show σ79 55 9 = (σ 55 9) from ((f82 9 (by decide)).trans (congrFun (f49 55 (by decide)) 9))))
      have z163 : (σ79 26 6).toInt = (σ 26 6).toInt := (congrArg Int32.toInt (show σ79 26 6 = (σ 26 6) from ((congrFun (f81 26 (by decide)) 6).trans (congrFun (f49 26 (by decide)) 6))))
      have z165 : (σ79 18 0).toInt = (σ 18 0).toInt := (congrArg Int32.toInt (show σ79 18 0 = (σ 18 0) from ((congrFun (f81 18 (by decide)) 0).trans (congrFun (f49 18 (by decide)) 0))))
      have z166 : (σ79 22 0).toInt = (σ 22 0).toInt := (congrArg Int32.toInt (show σ79 22 0 = (σ 22 0) from ((congrFun (f81 22 (by decide)) 0).trans (congrFun (f49 22 (by decide)) 0))))
      exact ih x114 σ79 τ _ _ ls (by have h9 := tx114; omega) ⟨I115, I116, I117, I118, I119, I120, I121, I122, I123, I124, I125, I126, I127, I128, I129, I130, I83, I84, I131, I85, I132, I133, I134, I135, p136, p86, p137, p138, p139, p140, p141, p142, p143, (by omega), (by omega), (by omega), (by omega), (by omega), (by omega), (by omega), (by omega), (by omega), (by omega), (by omega), (by omega), (by omega), (by have h9 := tx114; omega), (show jNumP (σ79 3) (σ79 56) (σ79 6) (σ79 57) (σ79 7) (σ79 58) (σ79 8) (σ79 59) (σ79 55 6).toInt (σ79 55 4).toInt by rw [show σ79 3 = σ 3 from ((f81 3 (by decide)).trans (f49 3 (by decide))), show σ79 56 = σ 56 from ((f81 56 (by decide)).trans (f49 56 (by decide))), show σ79 6 = σ 6 from ((f81 6 (by decide)).trans (f49 6 (by decide))), show σ79 57 = σ 57 from ((f81 57 (by decide)).trans (f49 57 (by decide))), show σ79 7 = σ 7 from ((f81 7 (by decide)).trans (f49 7 (by decide))), show σ79 58 = σ 58 from ((f81 58 (by decide)).trans (f49 58 (by decide))), show σ79 8 = σ 8 from ((f81 8 (by decide)).trans (f49 8 (by decide))), show σ79 59 = σ 59 from ((f81 59 (by decide)).trans (f49 59 (by decide))), show (σ79 55 6).toInt = (σ 55 6).toInt from by omega, show (σ79 55 4).toInt = (σ 55 4).toInt from by omega]; exact hr0), (show jOvP (σ79 56) (σ79 57) (σ79 58) (σ79 59) (σ79 55 4).toInt by rw [show σ79 56 = σ 56 from ((f81 56 (by decide)).trans (f49 56 (by decide))), show σ79 57 = σ 57 from ((f81 57 (by decide)).trans (f49 57 (by decide))), show σ79 58 = σ 58 from ((f81 58 (by decide)).trans (f49 58 (by decide))), show σ79 59 = σ 59 from ((f81 59 (by decide)).trans (f49 59 (by decide))), show (σ79 55 4).toInt = (σ 55 4).toInt from by omega]; exact hr1), (show jTp (σ79 10) (σ79 63) (σ79 55 15).toInt by rw [show σ79 10 = σ 10 from ((f81 10 (by decide)).trans (f49 10 (by decide))), show σ79 63 = σ 63 from ((f81 63 (by decide)).trans (f49 63 (by decide)))]; exact hr2.le (by omega)), (show jSo (σ79 17) (σ79 62) (σ79 16 0).toInt by rw [show σ79 17 = σ47 17 from (f81 17 (by decide)), show (σ79 16 0).toInt = (σ47 16 0).toInt from by omega]; exact p103), (show jShP (σ79 51) (σ79 52) (σ79 53) (σ79 86) (σ79 87) (σ79 55 32).toInt by rw [show σ79 51 = σ 51 from ((f81 51 (by decide)).trans (f49 51 (by decide))), show σ79 52 = σ 52 from ((f81 52 (by decide)).trans (f49 52 (by decide))), show σ79 53 = σ 53 from ((f81 53 (by decide)).trans (f49 53 (by decide))), show σ79 86 = σ 86 from ((f81 86 (by decide)).trans (f49 86 (by decide))), show σ79 87 = σ 87 from ((f81 87 (by decide)).trans (f49 87 (by decide)))]; exact (hr4.up (by omega) (by omega))), (show jEl (σ79 51) (σ79 52) (τ 54) (τ 88) by rw [show σ79 51 = σ 51 from ((f81 51 (by decide)).trans (f49 51 (by decide))), show σ79 52 = σ 52 from ((f81 52 (by decide)).trans (f49 52 (by decide)))]; exact hr5), (show jByP (σ79 51) (σ79 52) (τ 54) by rw [show σ79 51 = σ 51 from ((f81 51 (by decide)).trans (f49 51 (by decide))), show σ79 52 = σ 52 from ((f81 52 (by decide)).trans (f49 52 (by decide)))]; exact hr6), (show jBk (σ79 48) (σ79 80) (σ79 49) (σ79 81) (σ79 55 47).toInt from (Or.elim (show (σ79 55 47).toInt = (σ 55 47).toInt ∨ (σ79 55 47).toInt ≤ 0 by omega) (fun z => by rw [show σ79 48 = σ 48 from ((f81 48 (by decide)).trans (f49 48 (by decide))), show σ79 49 = σ 49 from ((f81 49 (by decide)).trans (f49 49 (by decide))), show σ79 80 = σ 80 from ((f81 80 (by decide)).trans (f49 80 (by decide))), show σ79 81 = σ 81 from ((f81 81 (by decide)).trans (f49 81 (by decide))), z]; exact hr7) (fun z => jBk.nil z))), (show jKd (σ79 39) (σ79 70) (σ79 55 32).toInt by rw [show σ79 39 = σ 39 from ((f81 39 (by decide)).trans (f49 39 (by decide))), show σ79 70 = σ 70 from ((f81 70 (by decide)).trans (f49 70 (by decide))), show (σ79 55 32).toInt = (σ 55 32).toInt from by omega]; exact hr8), (show jTt (σ79 42) (σ79 85) (σ79 55 55).toInt by rw [show σ79 42 = σ 42 from ((f81 42 (by decide)).trans (f49 42 (by decide))), show σ79 85 = σ 85 from ((f81 85 (by decide)).trans (f49 85 (by decide))), show (σ79 55 55).toInt = (σ 55 55).toInt from by omega]; exact hr9), (fun k hk => by rw [show σ79 4 = σ 4 from ((f81 4 (by decide)).trans (f49 4 (by decide))), show σ79 5 = σ 5 from ((f81 5 (by decide)).trans (f49 5 (by decide))), show σ79 60 = σ 60 from ((f81 60 (by decide)).trans (f49 60 (by decide))), show σ79 61 = σ 61 from ((f81 61 (by decide)).trans (f49 61 (by decide)))]; exact hr10 k (by omega)), (fun nm => by rw [show σ79 19 = σ 19 from ((f81 19 (by decide)).trans (f49 19 (by decide))), show σ79 64 = σ 64 from ((f81 64 (by decide)).trans (f49 64 (by decide))), show σ79 65 = σ 65 from ((f81 65 (by decide)).trans (f49 65 (by decide))), show (σ79 18 0).toInt = (σ 18 0).toInt from by omega]; exact hr11 nm), (fun nm => by rw [show σ79 23 = σ 23 from ((f81 23 (by decide)).trans (f49 23 (by decide))), show σ79 64 = σ 64 from ((f81 64 (by decide)).trans (f49 64 (by decide))), show σ79 65 = σ 65 from ((f81 65 (by decide)).trans (f49 65 (by decide))), show (σ79 22 0).toInt = (σ 22 0).toInt from by omega]; exact hr12 nm)⟩ hP hS (lv_sub hl [0, 1, 2, 3] rfl)
    · obtain ⟨q169, k167, k168⟩ := h110
      exact absurd (by omega : False) id
  · obtain ⟨q172, k170, k171⟩ := h70
    refine lv_pop hx hb dL_law_385 rfl ?_
    refine lv_aload_n hx hb dL_law_386 rfl (lv_at hl 1 rfl) ?_
    have I173 : jI104 σ47 := jI104_fr (congrFun (f49 55 (by decide)) 10) (congrFun (f49 55 (by decide)) 12) (congrFun (f49 55 (by decide)) 13) (f49 62 (by decide)) (f49 67 (by decide)) hI104
    have I174 : jI105 σ47 := jI105_fr (congrFun (f49 55 (by decide)) 15) (f49 65 (by decide)) hI105
    have I175 : jI107 σ47 := jI107_fr (congrFun (f49 55 (by decide)) 12) (congrFun (f49 55 (by decide)) 47) (f49 80 (by decide)) hI107
    have p176 : jBook σ47 := jBook.fr (congrFun (f49 55 (by decide)) 47) (congrFun (f49 55 (by decide)) 10) (f49 81 (by decide)) hs_jBook
    have z177 : (σ47 55 47).toInt = (σ 55 47).toInt := (congrArg Int32.toInt (show σ47 55 47 = (σ 55 47) from (congrFun (f49 55 (by decide)) 47)))
    refine jcallV (As := []) (rest := []) ⟨hx, hb, hml, hown, hts⟩ hK hP hA hS hZ (c_X12_order l D cI cL ad zz hJ σ47 τ I173 I174 I175 p176) cw_RL_40 (jc_55 cI cL ad σ47 τ) rfl ⟨Nat.le_of_ble_eq_true rfl, Nat.le_of_ble_eq_true rfl⟩ rfl rfl rfl hl.1 rfl (Nat.le_of_ble_eq_true rfl) dL_law_387 ⟨Nat.le_of_ble_eq_true rfl, Nat.le_of_ble_eq_true rfl⟩ (fun r179 σ178 τ178 H locs h178 hP hS => ?_)
    obtain ⟨rfl, f180, f181, I182, I183, I184, p185, w186, h178⟩ := h178
    obtain ⟨i188, i189, i190, w191, w192⟩ : (1 ≤ (σ178 55 10).toInt ∧ (σ178 55 10).toInt ≤ 8) ∧ (1 ≤ (σ178 55 12).toInt ∧ (σ178 55 12).toInt ≤ 12) ∧ (0 ≤ (σ178 55 13).toInt ∧ (σ178 55 13).toInt ≤ 999) ∧ (∀ k : Nat, k < 8 → 0 ≤ (σ178 62 k).toInt ∧ (σ178 62 k).toInt ≤ 3) ∧ (∀ k : Nat, k < 8 → 0 ≤ (σ178 67 k).toInt ∧ (σ178 67 k).toInt ≤ 3) := id I182
    obtain ⟨i193, w194⟩ : (0 ≤ (σ178 55 15).toInt ∧ (σ178 55 15).toInt ≤ 80) ∧ (∀ k : Nat, k < 2 → (-1) ≤ (σ178 65 k).toInt ∧ (σ178 65 k).toInt ≤ 80) := id I183
    obtain ⟨i195, i196, w197⟩ : (0 ≤ (σ178 55 47).toInt ∧ (σ178 55 47).toInt ≤ 12) ∧ ((σ178 55 47).toInt ≤ (σ178 55 12).toInt) ∧ (∀ k : Nat, k < 12 → 0 ≤ (σ178 80 k).toInt ∧ (σ178 80 k).toInt ≤ 3) := id I184
    have z198 : (σ47 55 10).toInt = (σ 55 10).toInt := (congrArg Int32.toInt (show σ47 55 10 = (σ 55 10) from (congrFun (f49 55 (by decide)) 10)))
    have z199 : (σ47 55 12).toInt = (σ 55 12).toInt := (congrArg Int32.toInt (show σ47 55 12 = (σ 55 12) from (congrFun (f49 55 (by decide)) 12)))
    have z200 : (σ47 55 13).toInt = (σ 55 13).toInt := (congrArg Int32.toInt (show σ47 55 13 = (σ 55 13) from (congrFun (f49 55 (by decide)) 13)))
    have z201 : (σ47 55 15).toInt = (σ 55 15).toInt := (congrArg Int32.toInt (show σ47 55 15 = (σ 55 15) from (congrFun (f49 55 (by decide)) 15)))
    rw [show (σ47 55 10).toInt = (σ 55 10).toInt from by omega, show (σ47 55 12).toInt = (σ 55 12).toInt from by omega, show (σ47 55 13).toInt = (σ 55 13).toInt from by omega, show (σ47 55 15).toInt = (σ 55 15).toInt from by omega, show σ47 63 = σ 63 from (f49 63 (by decide)), show σ47 62 = σ 62 from (f49 62 (by decide))] at w186
    rw [show (σ 9 0).toInt = (σ 55 15).toInt from by omega] at w56
    have p202 := hr2 |> fun h => jOrA.det h w56 w186 (by omega) (by omega) (by omega) hr3
    obtain ⟨k203, k204, k205, k206, p202⟩ := p202
    obtain ⟨k207, h178⟩ := h178
    rcases h178 with h208 | h209
    · obtain ⟨q212, k210, k211⟩ := h208
      exact absurd (by omega : False) id
    · obtain ⟨q215, k213, k214⟩ := h209
      refine lv_pop hx hb dL_law_390 rfl ?_
      refine lv_goto (tgt := 1357) hx hb dL_law_391 (by decide) ?_
      obtain ⟨x216, ex216⟩ : ∃ y : Int32, y = x0 + 6 := ⟨_, rfl⟩
      have tx216 : x216.toInt = x0.toInt + 6 := (jadd ex216 rfl jz_6 (by omega) (by omega)).trans (by omega)
      refine lv_iinc (v := x216) (lv' := [(3, .int x216), (2, .ref (ad 55)), (1, .ref (ad 0)), (0, .ref b)]) hx hb dL_law_1357 hl (k := 0) rfl (by rw [ex216]; rfl) (by decide) rfl (fun ls hl => ?_)
      refine lv_goto (tgt := 18) hx hb dL_law_1360 (by decide) ?_
      have I217 : jI2 σ178 := jI2_fr ((congrFun (f180 2 (by decide)) 0).trans (congrFun (f49 2 (by decide)) 0)) ((congrFun (f180 2 (by decide)) 1).trans (congrFun (f49 2 (by decide)) 1)) ((congrFun (f180 2 (by decide)) 2).trans (congrFun (f49 2 (by decide)) 2)) ((congrFun (f180 2 (by decide)) 3).trans (congrFun (f49 2 (by decide)) 3)) ((f180 6 (by decide)).trans (f49 6 (by decide))) hI2
      have I218 : jI9 σ178 := jI9_fr (congrFun (f180 9 (by decide)) 0) (f180 10 (by decide)) (f180 11 (by decide)) I53
      have I219 : jI12 σ178 := jI12_fr ((congrFun (f180 12 (by decide)) 0).trans (congrFun (f49 12 (by decide)) 0)) ((f180 13 (by decide)).trans (f49 13 (by decide))) hI12
      have I220 : jI16 σ178 := jI16_fr (congrFun (f180 16 (by decide)) 0) (congrFun (f180 16 (by decide)) 1) (congrFun (f180 16 (by decide)) 2) (f180 17 (by decide)) I54
      have I221 : jI18 σ178 := jI18_fr ((congrFun (f180 18 (by decide)) 0).trans (congrFun (f49 18 (by decide)) 0)) ((f180 19 (by decide)).trans (f49 19 (by decide))) hI18
      have I222 : jI22 σ178 := jI22_fr ((congrFun (f180 22 (by decide)) 0).trans (congrFun (f49 22 (by decide)) 0)) ((f180 23 (by decide)).trans (f49 23 (by decide))) hI22
      have I223 : jI31 σ178 := jI31_fr ((congrFun (f180 31 (by decide)) 8).trans (congrFun (f49 31 (by decide)) 8)) ((congrFun (f180 31 (by decide)) 10).trans (congrFun (f49 31 (by decide)) 10)) ((congrFun (f180 31 (by decide)) 11).trans (congrFun (f49 31 (by decide)) 11)) ((f180 33 (by decide)).trans (f49 33 (by decide))) ((f180 35 (by decide)).trans (f49 35 (by decide))) ((f180 36 (by decide)).trans (f49 36 (by decide))) hI31
      have I224 : jI38 σ178 := jI38_fr ((congrFun (f180 38 (by decide)) 0).trans (congrFun (f49 38 (by decide)) 0)) ((congrFun (f180 38 (by decide)) 1).trans (congrFun (f49 38 (by decide)) 1)) ((f180 39 (by decide)).trans (f49 39 (by decide))) hI38
      have I225 : jI43 σ178 := jI43_fr ((congrFun (f180 43 (by decide)) 8).trans (congrFun (f49 43 (by decide)) 8)) hI43
      have I226 : jI47 σ178 := jI47_fr (congrFun (f180 47 (by decide)) 0) (f180 48 (by decide)) (f180 49 (by decide)) I55
      have I227 : jI50 σ178 := jI50_fr ((f180 52 (by decide)).trans (f49 52 (by decide))) hI50
      have I228 : jI0 σ178 := jI0_fr ((f180 1 (by decide)).trans (f49 1 (by decide))) hI0
      have I229 : jI26 σ178 := jI26_fr ((congrFun (f180 26 (by decide)) 6).trans (congrFun (f49 26 (by decide)) 6)) hI26
      have I230 : jI101 σ178 := jI101_fr ((f181 4 (by decide)).trans (congrFun (f49 55 (by decide)) 4)) ((f181 5 (by decide)).trans (congrFun (f49 55 (by decide)) 5)) ((f180 56 (by decide)).trans (f49 56 (by decide))) ((f180 57 (by decide)).trans (f49 57 (by decide))) ((f180 58 (by decide)).trans (f49 58 (by decide))) ((f180 59 (by decide)).trans (f49 59 (by decide))) hI101
      have I231 : jI102 σ178 := jI102_fr ((f181 6 (by decide)).trans (congrFun (f49 55 (by decide)) 6)) ((f180 60 (by decide)).trans (f49 60 (by decide))) ((f180 61 (by decide)).trans (f49 61 (by decide))) hI102
      have I232 : jI103 σ178 := jI103_fr ((f181 9 (by decide)).trans (congrFun (f49 55 (by decide)) 9)) hI103
      have I233 : jI106 σ178 := jI106_fr ((f181 32 (by decide)).trans (congrFun (f49 55 (by decide)) 32)) ((f180 70 (by decide)).trans (f49 70 (by decide))) ((f180 71 (by decide)).trans (f49 71 (by decide))) ((f180 72 (by decide)).trans (f49 72 (by decide))) hI106
      have I234 : jI109 σ178 := jI109_fr ((f181 50 (by decide)).trans (congrFun (f49 55 (by decide)) 50)) hI109
      have I235 : jI110 σ178 := jI110_fr ((f180 86 (by decide)).trans (f49 86 (by decide))) ((f180 87 (by decide)).trans (f49 87 (by decide))) hI110
      have I236 : jI111 σ178 := jI111_fr ((f180 79 (by decide)).trans (f49 79 (by decide))) hI111
      have I237 : jI119 σ178 := jI119_fr ((f180 68 (by decide)).trans (f49 68 (by decide))) hI119
      have p238 : jKept σ178 := jKept.fr ((f180 75 (by decide)).trans (f49 75 (by decide))) ((f180 76 (by decide)).trans (f49 76 (by decide))) ((f180 77 (by decide)).trans (f49 77 (by decide))) hs_jKept
      have p239 : jNd12 σ178 := jNd12.fr ((congrFun (f180 12 (by decide)) 0).trans (congrFun (f49 12 (by decide)) 0)) ((congrFun (f180 12 (by decide)) 1).trans (congrFun (f49 12 (by decide)) 1)) ((f180 13 (by decide)).trans (f49 13 (by decide))) hs_jNd12
      have p240 : jN67 σ178 := jN67.fr ((f180 24 (by decide)).trans (f49 24 (by decide))) hs_jN67
      have p241 : jBl σ178 := jBl.fr ((congrFun (f180 22 (by decide)) 0).trans (congrFun (f49 22 (by decide)) 0)) ((congrFun (f180 22 (by decide)) 1).trans (congrFun (f49 22 (by decide)) 1)) ((f180 23 (by decide)).trans (f49 23 (by decide))) ((congrFun (f180 26 (by decide)) 6).trans (congrFun (f49 26 (by decide)) 6)) ((congrFun (f180 26 (by decide)) 7).trans (congrFun (f49 26 (by decide)) 7)) ((f180 29 (by decide)).trans (f49 29 (by decide))) ((f180 30 (by decide)).trans (f49 30 (by decide))) hs_jBl
      have p242 : jKb σ178 := jKb.fr ((congrFun (f180 31 (by decide)) 8).trans (congrFun (f49 31 (by decide)) 8)) ((congrFun (f180 31 (by decide)) 11).trans (congrFun (f49 31 (by decide)) 11)) ((f180 32 (by decide)).trans (f49 32 (by decide))) hs_jKb
      have p243 : jTR σ178 := jTR.fr ((f180 64 (by decide)).trans (f49 64 (by decide))) ((f180 65 (by decide)).trans (f49 65 (by decide))) hs_jTR
      have p244 : jKh σ178 := jKh.fr ((congrFun (f180 31 (by decide)) 8).trans (congrFun (f49 31 (by decide)) 8)) ((f180 32 (by decide)).trans (f49 32 (by decide))) ((f180 36 (by decide)).trans (f49 36 (by decide))) ((f180 37 (by decide)).trans (f49 37 (by decide))) hs_jKh
      have p245 : jKg σ178 := jKg.fr ((congrFun (f180 31 (by decide)) 8).trans (congrFun (f49 31 (by decide)) 8)) ((congrFun (f180 31 (by decide)) 9).trans (congrFun (f49 31 (by decide)) 9)) ((congrFun (f180 31 (by decide)) 11).trans (congrFun (f49 31 (by decide)) 11)) ((congrFun (f180 31 (by decide)) 12).trans (congrFun (f49 31 (by decide)) 12)) ((f180 32 (by decide)).trans (f49 32 (by decide))) ((f180 33 (by decide)).trans (f49 33 (by decide))) hs_jKg
      have z246 : (σ178 2 0).toInt = (σ 2 0).toInt := (congrArg Int32.toInt (show σ178 2 0 = (σ 2 0) from ((congrFun (f180 2 (by decide)) 0).trans (congrFun (f49 2 (by decide)) 0))))
      have z247 : (σ178 55 6).toInt = (σ 55 6).toInt := (congrArg Int32.toInt (show σ178 55 6 = (σ 55 6) from ((f181 6 (by decide)).trans (congrFun (f49 55 (by decide)) 6))))
      have z248 : (σ178 2 2).toInt = (σ 2 2).toInt := (congrArg Int32.toInt (show σ178 2 2 = (σ 2 2) from ((congrFun (f180 2 (by decide)) 2).trans (congrFun (f49 2 (by decide)) 2))))
      have z249 : (σ178 55 5).toInt = (σ 55 5).toInt := (congrArg Int32.toInt (show σ178 55 5 = (σ 55 5) from ((f181 5 (by decide)).trans (congrFun (f49 55 (by decide)) 5))))
      have z250 : (σ178 2 3).toInt = (σ 2 3).toInt := (congrArg Int32.toInt (show σ178 2 3 = (σ 2 3) from ((congrFun (f180 2 (by decide)) 3).trans (congrFun (f49 2 (by decide)) 3))))
      have z251 : (σ178 55 4).toInt = (σ 55 4).toInt := (congrArg Int32.toInt (show σ178 55 4 = (σ 55 4) from ((f181 4 (by decide)).trans (congrFun (f49 55 (by decide)) 4))))
      have z252 : (σ178 9 0).toInt = (σ47 9 0).toInt := (congrArg Int32.toInt (show σ178 9 0 = (σ47 9 0) from (congrFun (f180 9 (by decide)) 0)))
      have z253 : (σ178 16 0).toInt = (σ47 16 0).toInt := (congrArg Int32.toInt (show σ178 16 0 = (σ47 16 0) from (congrFun (f180 16 (by decide)) 0)))
      have z254 : (σ178 16 1).toInt = (σ47 16 1).toInt := (congrArg Int32.toInt (show σ178 16 1 = (σ47 16 1) from (congrFun (f180 16 (by decide)) 1)))
      have z255 : (σ178 16 2).toInt = (σ47 16 2).toInt := (congrArg Int32.toInt (show σ178 16 2 = (σ47 16 2) from (congrFun (f180 16 (by decide)) 2)))
      have z256 : (σ178 38 0).toInt = (σ 38 0).toInt := (congrArg Int32.toInt (show σ178 38 0 = (σ 38 0) from ((congrFun (f180 38 (by decide)) 0).trans (congrFun (f49 38 (by decide)) 0))))
      have z257 : (σ178 55 32).toInt = (σ 55 32).toInt := (congrArg Int32.toInt (show σ178 55 32 = (σ 55 32) from ((f181 32 (by decide)).trans (congrFun (f49 55 (by decide)) 32))))
      have z258 : (σ178 38 1).toInt = (σ 38 1).toInt := (congrArg Int32.toInt (show σ178 38 1 = (σ 38 1) from ((congrFun (f180 38 (by decide)) 1).trans (congrFun (f49 38 (by decide)) 1))))
      have z259 : (σ178 55 55).toInt = (σ 55 55).toInt := (congrArg Int32.toInt (show σ178 55 55 = (σ 55 55) from ((f181 55 (by decide)).trans (congrFun (f49 55 (by decide)) 55))))
      have z260 : (σ178 47 0).toInt = (σ47 47 0).toInt := (congrArg Int32.toInt (show σ178 47 0 = (σ47 47 0) from (congrFun (f180 47 (by decide)) 0)))
      have z261 : (σ178 55 30).toInt = (σ 55 30).toInt := (congrArg Int32.toInt (show σ178 55 30 = (σ 55 30) from ((f181 30 (by decide)).trans (congrFun (f49 55 (by decide)) 30))))
      have z262 : (σ178 55 31).toInt = (σ 55 31).toInt := (congrArg Int32.toInt (show σ178 55 31 = (σ 55 31) from ((f181 31 (by decide)).trans (congrFun (f49 55 (by decide)) 31))))
      have z263 : (σ178 2 1).toInt = (σ 2 1).toInt := (congrArg Int32.toInt (show σ178 2 1 = (σ 2 1) from ((congrFun (f180 2 (by decide)) 1).trans (congrFun (f49 2 (by decide)) 1))))
      have z264 : (σ178 55 9).toInt = (σ 55 9).toInt := (congrArg Int32.toInt (show σ178 55 9 = (σ 55 9) from ((f181 9 (by decide)).trans (congrFun (f49 55 (by decide)) 9))))
      have z265 : (σ178 26 6).toInt = (σ 26 6).toInt := (congrArg Int32.toInt (show σ178 26 6 = (σ 26 6) from ((congrFun (f180 26 (by decide)) 6).trans (congrFun (f49 26 (by decide)) 6))))
      have z267 : (σ178 18 0).toInt = (σ 18 0).toInt := (congrArg Int32.toInt (show σ178 18 0 = (σ 18 0) from ((congrFun (f180 18 (by decide)) 0).trans (congrFun (f49 18 (by decide)) 0))))
      have z268 : (σ178 22 0).toInt = (σ 22 0).toInt := (congrArg Int32.toInt (show σ178 22 0 = (σ 22 0) from ((congrFun (f180 22 (by decide)) 0).trans (congrFun (f49 22 (by decide)) 0))))
      exact ih x216 σ178 τ _ _ ls (by have h9 := tx216; omega) ⟨I217, I218, I219, I220, I221, I222, I223, I224, I225, I226, I227, I228, I229, I230, I231, I232, I182, I183, I233, I184, I234, I235, I236, I237, p238, p185, p239, p240, p241, p242, p243, p244, p245, (by omega), (by omega), (by omega), (by omega), (by omega), (by omega), (by omega), (by omega), (by omega), (by omega), (by omega), (by omega), (by omega), (by have h9 := tx216; omega), (show jNumP (σ178 3) (σ178 56) (σ178 6) (σ178 57) (σ178 7) (σ178 58) (σ178 8) (σ178 59) (σ178 55 6).toInt (σ178 55 4).toInt by rw [show σ178 3 = σ 3 from ((f180 3 (by decide)).trans (f49 3 (by decide))), show σ178 56 = σ 56 from ((f180 56 (by decide)).trans (f49 56 (by decide))), show σ178 6 = σ 6 from ((f180 6 (by decide)).trans (f49 6 (by decide))), show σ178 57 = σ 57 from ((f180 57 (by decide)).trans (f49 57 (by decide))), show σ178 7 = σ 7 from ((f180 7 (by decide)).trans (f49 7 (by decide))), show σ178 58 = σ 58 from ((f180 58 (by decide)).trans (f49 58 (by decide))), show σ178 8 = σ 8 from ((f180 8 (by decide)).trans (f49 8 (by decide))), show σ178 59 = σ 59 from ((f180 59 (by decide)).trans (f49 59 (by decide))), show (σ178 55 6).toInt = (σ 55 6).toInt from by omega, show (σ178 55 4).toInt = (σ 55 4).toInt from by omega]; exact hr0), (show jOvP (σ178 56) (σ178 57) (σ178 58) (σ178 59) (σ178 55 4).toInt by rw [show σ178 56 = σ 56 from ((f180 56 (by decide)).trans (f49 56 (by decide))), show σ178 57 = σ 57 from ((f180 57 (by decide)).trans (f49 57 (by decide))), show σ178 58 = σ 58 from ((f180 58 (by decide)).trans (f49 58 (by decide))), show σ178 59 = σ 59 from ((f180 59 (by decide)).trans (f49 59 (by decide))), show (σ178 55 4).toInt = (σ 55 4).toInt from by omega]; exact hr1), (show jTp (σ178 10) (σ178 63) (σ178 55 15).toInt by rw [show σ178 10 = σ 10 from ((f180 10 (by decide)).trans (f49 10 (by decide))), show σ178 63 = σ 63 from ((f180 63 (by decide)).trans (f49 63 (by decide)))]; exact hr2.le (by omega)), (show jSo (σ178 17) (σ178 62) (σ178 16 0).toInt by rw [show σ178 17 = σ47 17 from (f180 17 (by decide)), show (σ178 16 0).toInt = (σ47 16 0).toInt from by omega]; exact p202), (show jShP (σ178 51) (σ178 52) (σ178 53) (σ178 86) (σ178 87) (σ178 55 32).toInt by rw [show σ178 51 = σ 51 from ((f180 51 (by decide)).trans (f49 51 (by decide))), show σ178 52 = σ 52 from ((f180 52 (by decide)).trans (f49 52 (by decide))), show σ178 53 = σ 53 from ((f180 53 (by decide)).trans (f49 53 (by decide))), show σ178 86 = σ 86 from ((f180 86 (by decide)).trans (f49 86 (by decide))), show σ178 87 = σ 87 from ((f180 87 (by decide)).trans (f49 87 (by decide)))]; exact (hr4.up (by omega) (by omega))), (show jEl (σ178 51) (σ178 52) (τ 54) (τ 88) by rw [show σ178 51 = σ 51 from ((f180 51 (by decide)).trans (f49 51 (by decide))), show σ178 52 = σ 52 from ((f180 52 (by decide)).trans (f49 52 (by decide)))]; exact hr5), (show jByP (σ178 51) (σ178 52) (τ 54) by rw [show σ178 51 = σ 51 from ((f180 51 (by decide)).trans (f49 51 (by decide))), show σ178 52 = σ 52 from ((f180 52 (by decide)).trans (f49 52 (by decide)))]; exact hr6), (jBk.nil (by omega)), (show jKd (σ178 39) (σ178 70) (σ178 55 32).toInt by rw [show σ178 39 = σ 39 from ((f180 39 (by decide)).trans (f49 39 (by decide))), show σ178 70 = σ 70 from ((f180 70 (by decide)).trans (f49 70 (by decide))), show (σ178 55 32).toInt = (σ 55 32).toInt from by omega]; exact hr8), (show jTt (σ178 42) (σ178 85) (σ178 55 55).toInt by rw [show σ178 42 = σ 42 from ((f180 42 (by decide)).trans (f49 42 (by decide))), show σ178 85 = σ 85 from ((f180 85 (by decide)).trans (f49 85 (by decide))), show (σ178 55 55).toInt = (σ 55 55).toInt from by omega]; exact hr9), (fun k hk => by rw [show σ178 4 = σ 4 from ((f180 4 (by decide)).trans (f49 4 (by decide))), show σ178 5 = σ 5 from ((f180 5 (by decide)).trans (f49 5 (by decide))), show σ178 60 = σ 60 from ((f180 60 (by decide)).trans (f49 60 (by decide))), show σ178 61 = σ 61 from ((f180 61 (by decide)).trans (f49 61 (by decide)))]; exact hr10 k (by omega)), (fun nm => by rw [show σ178 19 = σ 19 from ((f180 19 (by decide)).trans (f49 19 (by decide))), show σ178 64 = σ 64 from ((f180 64 (by decide)).trans (f49 64 (by decide))), show σ178 65 = σ 65 from ((f180 65 (by decide)).trans (f49 65 (by decide))), show (σ178 18 0).toInt = (σ 18 0).toInt from by omega]; exact hr11 nm), (fun nm => by rw [show σ178 23 = σ 23 from ((f180 23 (by decide)).trans (f49 23 (by decide))), show σ178 64 = σ 64 from ((f180 64 (by decide)).trans (f49 64 (by decide))), show σ178 65 = σ 65 from ((f180 65 (by decide)).trans (f49 65 (by decide))), show (σ178 22 0).toInt = (σ 22 0).toInt from by omega]; exact hr12 nm)⟩ hP hS (lv_sub hl [0, 1, 2, 3] rfl)
set_option maxHeartbeats 4000000 in
set_option maxRecDepth 100000 in
theorem law_case_6 {p : Program} {e : Env} {s : State} {m : MethodId} {below : List Frame} {meth : Method} {c : Code} (l : Launch) {b L : Nat} {xs : Nat → Int32} {D : va_G} {cI cL : ClassId} {ad zz : Nat → Nat} (C0 : lw_At p s m meth c b L xs) (hJ : jD ad) (hA : ∀ q, jA ad q → s.heap.size ≤ q) (hK : jK D cI cL s) (hZ : jZ zz (fun q : Nat => s.heap.size ≤ q) s s.heap) {x0 : Int32} (hx0 : 0 ≤ x0.toInt) (hxL : x0.toInt + 6 ≤ (L : Int)) (hL : L ≤ 384) {σ : Nat → Nat → Int32} {τ : Nat → Nat → Int64} {H : Heap} {locs : List Loc} (hS : va_S (fun q : Nat => s.heap.size ≤ q) s.heap H locs) {ls : Array Slot} (hAll : jAll x0.toInt σ τ) (hP : jH D cI cL ad σ τ H) (hl : lv_has ls 4 [(3, .int x0), (2, .ref (ad 55)), (1, .ref (ad 0)), (0, .ref b)]) (ih : ∀ (x1 : Int32) (σ : Nat → Nat → Int32) (τ : Nat → Nat → Int64) (H : Heap) (locs : List Loc) (ls : Array Slot), x1.toInt = x0.toInt + 6 → jAll x1.toInt σ τ → jH D cI cL ad σ τ H → va_S (fun q : Nat => s.heap.size ≤ q) s.heap H locs → lv_has ls 4 [(3, .int x1), (2, .ref (ad 55)), (1, .ref (ad 0)), (0, .ref b)] → W p l e room_1 s m #[Value.ref b] below meth c H locs 90 348600 (lw_Z below #[Value.ref b] s) (F0 m 18 ls [])) : W p l e room_1 s m #[Value.ref b] below meth c H locs 90 348600 (lw_Z below #[Value.ref b] s) (F0 m 394 ls []) := by
  obtain ⟨hx, hb, hr, hml, hown, hts0, hX, hbl, hlocks, hgv⟩ := C0
  have hts : ∀ w ∈ wsL_law, w.before #[Value.ref b] s = true := fun w h => hts0 w (wsL_law_in w h)
  have hbA : ¬ (fun q : Nat => s.heap.size ≤ q) b := Nat.not_le.mpr hbl
  have hown : s.vm.findClass RL = some m.cls := hown
  obtain ⟨hI2, hI9, hI12, hI16, hI18, hI22, hI31, hI38, hI43, hI47, hI50, hI0, hI26, hI101, hI102, hI103, hI104, hI105, hI106, hI107, hI109, hI110, hI111, hI119, hs_jKept, hs_jBook, hs_jNd12, hs_jN67, hs_jBl, hs_jKb, hs_jTR, hs_jKh, hs_jKg, ht0, ht1, ht2, ht3, ht4, ht5, ht6, ht7, ht8, ht9, ht10, ht11, ht12, ht13, hr0, hr1, hr2, hr3, hr4, hr5, hr6, hr7, hr8, hr9, hr10, hr11, hr12⟩ := hAll
  have hL9 : (L : Int) ≤ 384 := by omega
  obtain ⟨i1, i2, i3, i4, i5, w6⟩ : (0 ≤ (σ 2 0).toInt ∧ (σ 2 0).toInt ≤ 4) ∧ (0 ≤ (σ 2 1).toInt ∧ (σ 2 1).toInt ≤ 3) ∧ (0 ≤ (σ 2 2).toInt) ∧ (0 ≤ (σ 2 3).toInt) ∧ ((σ 2 2).toInt + (σ 2 3).toInt ≤ 40) ∧ (∀ k : Nat, k < 40 → 0 ≤ (σ 6 k).toInt ∧ (σ 6 k).toInt ≤ 67) := id hI2
  obtain ⟨i7, w8, w9⟩ : (0 ≤ (σ 9 0).toInt ∧ (σ 9 0).toInt ≤ 80) ∧ (∀ k : Nat, k < 80 → 0 ≤ (σ 10 k).toInt ∧ (σ 10 k).toInt ≤ 255) ∧ (∀ k : Nat, k < 8 → 0 ≤ (σ 11 k).toInt ∧ (σ 11 k).toInt ≤ 3) := id hI9
  obtain ⟨i10, i11, i12, w13⟩ : (1 ≤ (σ 16 0).toInt ∧ (σ 16 0).toInt ≤ 8) ∧ (1 ≤ (σ 16 1).toInt ∧ (σ 16 1).toInt ≤ 12) ∧ (0 ≤ (σ 16 2).toInt ∧ (σ 16 2).toInt ≤ 999) ∧ (∀ k : Nat, k < 8 → 0 ≤ (σ 17 k).toInt ∧ (σ 17 k).toInt ≤ 3) := id hI16
  obtain ⟨i14, i15, w16⟩ : (0 ≤ (σ 38 0).toInt ∧ (σ 38 0).toInt ≤ 20) ∧ (0 ≤ (σ 38 1).toInt ∧ (σ 38 1).toInt ≤ 1000) ∧ (∀ k : Nat, k < 20 → 0 ≤ (σ 39 k).toInt ∧ (σ 39 k).toInt ≤ 6) := id hI38
  obtain ⟨i17, w18, w19⟩ : (0 ≤ (σ 47 0).toInt ∧ (σ 47 0).toInt ≤ 12) ∧ (∀ k : Nat, k < 12 → 0 ≤ (σ 48 k).toInt ∧ (σ 48 k).toInt ≤ 3) ∧ (∀ k : Nat, k < 12 → 0 ≤ (σ 49 k).toInt ∧ (σ 49 k).toInt ≤ 1) := id hI47
  have w20 : ∀ k : Nat, k < 6 → 0 ≤ (σ 52 k).toInt ∧ (σ 52 k).toInt ≤ 60 := hI50
  have i21 : 1 ≤ (σ 26 6).toInt ∧ (σ 26 6).toInt ≤ 8000 := hI26
  obtain ⟨i22, i23, i24, w25, w26, w27, w28⟩ : (0 ≤ (σ 55 5).toInt) ∧ ((σ 55 5).toInt ≤ (σ 55 4).toInt) ∧ ((σ 55 4).toInt ≤ 40) ∧ (∀ k : Nat, k < 68 → (-200) ≤ (σ 56 k).toInt ∧ (σ 56 k).toInt ≤ 500) ∧ (∀ k : Nat, k < 40 → 0 ≤ (σ 57 k).toInt ∧ (σ 57 k).toInt ≤ 67) ∧ (∀ k : Nat, k < 40 → (-200) ≤ (σ 58 k).toInt ∧ (σ 58 k).toInt ≤ 500) ∧ (∀ k : Nat, k < 40 → (-200) ≤ (σ 59 k).toInt ∧ (σ 59 k).toInt ≤ 500) := id hI101
  obtain ⟨i29, w30, w31⟩ : (0 ≤ (σ 55 6).toInt ∧ (σ 55 6).toInt ≤ 4) ∧ (∀ k : Nat, k < 4 → 0 ≤ (σ 60 k).toInt ∧ (σ 60 k).toInt ≤ 50) ∧ (∀ k : Nat, k < 4 → 0 ≤ (σ 61 k).toInt ∧ (σ 61 k).toInt ≤ 20) := id hI102
  have i32 : 0 ≤ (σ 55 9).toInt ∧ (σ 55 9).toInt ≤ 3 := hI103
  obtain ⟨i33, i34, i35, w36, w37⟩ : (1 ≤ (σ 55 10).toInt ∧ (σ 55 10).toInt ≤ 8) ∧ (1 ≤ (σ 55 12).toInt ∧ (σ 55 12).toInt ≤ 12) ∧ (0 ≤ (σ 55 13).toInt ∧ (σ 55 13).toInt ≤ 999) ∧ (∀ k : Nat, k < 8 → 0 ≤ (σ 62 k).toInt ∧ (σ 62 k).toInt ≤ 3) ∧ (∀ k : Nat, k < 8 → 0 ≤ (σ 67 k).toInt ∧ (σ 67 k).toInt ≤ 3) := id hI104
  obtain ⟨i38, w39⟩ : (0 ≤ (σ 55 15).toInt ∧ (σ 55 15).toInt ≤ 80) ∧ (∀ k : Nat, k < 2 → (-1) ≤ (σ 65 k).toInt ∧ (σ 65 k).toInt ≤ 80) := id hI105
  obtain ⟨i40, w41, w42, w43⟩ : (0 ≤ (σ 55 32).toInt ∧ (σ 55 32).toInt ≤ 20) ∧ (∀ k : Nat, k < 20 → 0 ≤ (σ 70 k).toInt ∧ (σ 70 k).toInt ≤ 6) ∧ (∀ k : Nat, k < 20 → 0 ≤ (σ 71 k).toInt ∧ (σ 71 k).toInt ≤ 8) ∧ (∀ k : Nat, k < 160 → 0 ≤ (σ 72 k).toInt ∧ (σ 72 k).toInt ≤ 3) := id hI106
  obtain ⟨i44, i45, w46⟩ : (0 ≤ (σ 55 47).toInt ∧ (σ 55 47).toInt ≤ 12) ∧ ((σ 55 47).toInt ≤ (σ 55 12).toInt) ∧ (∀ k : Nat, k < 12 → 0 ≤ (σ 80 k).toInt ∧ (σ 80 k).toInt ≤ 3) := id hI107
  have hs_jOk3 : jOk3 σ := hr0.ok hr1.1
  refine lv_aload_n hx hb dL_law_394 rfl (lv_at hl 2 rfl) ?_
  refine lv_aload_n hx hb dL_law_395 rfl (lv_at hl 3 rfl) ?_
  refine lv_iload_n hx hb dL_law_396 rfl (lv_at hl 0 rfl) ?_
  refine lv_iconst (v := 1) hx hb dL_law_397 (by decide) ?_
  have g47 := jrg (rfl : x0.toInt = x0.toInt)
  refine lv_iadd hx hb dL_law_398 ?_
  refine lv_topi (fun x48 ex48 => ?_)
  have tx48 : x48.toInt = x0.toInt + 1 := (jadd ex48 rfl jz_1 (by omega) (by omega)).trans (by omega)
  refine va_sld hx hb hX hbl hbA hS (jin tx48 (by omega) (by omega)) dL_law_399 ?_
  have g49 := jrg (rfl : (xs x48.toNatClampNeg).toInt = (xs x48.toNatClampNeg).toInt)
  refine jcallV (As := [.int (xs x48.toNatClampNeg)]) (rest := []) ⟨hx, hb, hml, hown, hts⟩ hK hP hA hS hZ (c_X11_text l D cI cL ad zz hJ σ τ (xs x48.toNatClampNeg) ((xs x48.toNatClampNeg).toInt) rfl hI9 hI12 hI18 hI22 hI26 hs_jNd12 hs_jBl (by omega)) cw_RL_41 (jc_0 cI cL ad σ τ) rfl ⟨Nat.le_of_ble_eq_true rfl, Nat.le_of_ble_eq_true rfl⟩ rfl rfl rfl hl.1 rfl (Nat.le_of_ble_eq_true rfl) dL_law_400 ⟨Nat.le_of_ble_eq_true rfl, Nat.le_of_ble_eq_true rfl⟩ (fun r51 σ50 τ50 H locs h50 hP hS => ?_)
  obtain ⟨rfl, f52, f53, f54, f55, f56, f57, I58, I59, I60, I61, I62, p63, p64, w65, w66, h50⟩ := h50
  obtain ⟨i68, w69, w70⟩ : (0 ≤ (σ50 9 0).toInt ∧ (σ50 9 0).toInt ≤ 80) ∧ (∀ k : Nat, k < 80 → 0 ≤ (σ50 10 k).toInt ∧ (σ50 10 k).toInt ≤ 255) ∧ (∀ k : Nat, k < 8 → 0 ≤ (σ50 11 k).toInt ∧ (σ50 11 k).toInt ≤ 3) := id I58
  have i71 : 1 ≤ (σ50 26 6).toInt ∧ (σ50 26 6).toInt ≤ 8000 := I62
  obtain ⟨k72, k73, h50⟩ := h50
  refine lv_aload_n hx hb dL_law_403 rfl (lv_at hl 1 rfl) ?_
  refine lv_aload_n hx hb dL_law_404 rfl (lv_at hl 3 rfl) ?_
  refine lv_iload_n hx hb dL_law_405 rfl (lv_at hl 0 rfl) ?_
  refine lv_iconst (v := 1) hx hb dL_law_406 (by decide) ?_
  refine lv_iadd hx hb dL_law_407 ?_
  refine jtopr ex48.symm ?_
  refine va_sld hx hb hX hbl hbA hS (jin tx48 (by omega) (by omega)) dL_law_408 ?_
  have I74 : jI105 σ50 := jI105_fr (congrFun (f52 55 (by decide)) 15) (f52 65 (by decide)) hI105
  have p75 : jTR σ50 := jTR.fr (f52 64 (by decide)) (f52 65 (by decide)) hs_jTR
  have z76 : (σ50 55 15).toInt = (σ 55 15).toInt := (congrArg Int32.toInt (show σ50 55 15 = (σ 55 15) from (congrFun (f52 55 (by decide)) 15)))
  refine jcallV (As := [.int (xs x48.toNatClampNeg)]) (rest := [.int r51]) ⟨hx, hb, hml, hown, hts⟩ hK hP hA hS hZ (c_X12_text l D cI cL ad zz hJ σ50 τ (xs x48.toNatClampNeg) ((xs x48.toNatClampNeg).toInt) rfl I74 p75) cw_RL_44 (jc_55 cI cL ad σ50 τ) rfl ⟨Nat.le_of_ble_eq_true rfl, Nat.le_of_ble_eq_true rfl⟩ rfl rfl rfl hl.1 rfl (Nat.le_of_ble_eq_true rfl) dL_law_409 ⟨Nat.le_of_ble_eq_true rfl, Nat.le_of_ble_eq_true rfl⟩ (fun r78 σ77 τ77 H locs h77 hP hS => ?_)
  obtain ⟨rfl, f79, f80, I81, p82, w83, w84, h77⟩ := h77
  obtain ⟨i86, w87⟩ : (0 ≤ (σ77 55 15).toInt ∧ (σ77 55 15).toInt ≤ 80) ∧ (∀ k : Nat, k < 2 → (-1) ≤ (σ77 65 k).toInt ∧ (σ77 65 k).toInt ≤ 80) := id I81
  obtain ⟨k88, h77⟩ := h77
  rw [show (σ50 55 15).toInt = (σ 55 15).toInt from by omega, show σ50 63 = σ 63 from (f52 63 (by decide))] at w83
  rw [show σ50 55 15 = σ 55 15 from (congrFun (f52 55 (by decide)) 15), show σ50 63 = σ 63 from (f52 63 (by decide)), show σ50 64 = σ 64 from (f52 64 (by decide)), show σ50 65 = σ 65 from (f52 65 (by decide))] at w84
  rw [show (σ 9 0).toInt = (σ 55 15).toInt from by omega] at w65
  rw [show (σ 9 0).toInt = (σ 55 15).toInt from by omega] at w66
  have e89 := jXt w65 w83 hr2 rfl
  have p90 := jTxE w66 w84 e89 hr2 rfl (by omega) (by omega) w39 hr11 hr12
  refine lv_icmp_eq (tgt := 1357) hx hb dL_law_412 (by decide) (fun _ => ?_) (fun c => absurd ((Int32.toInt_inj.mp e89)) c)
  obtain ⟨x91, ex91⟩ : ∃ y : Int32, y = x0 + 6 := ⟨_, rfl⟩
  have tx91 : x91.toInt = x0.toInt + 6 := (jadd ex91 rfl jz_6 (by omega) (by omega)).trans (by omega)
  refine lv_iinc (v := x91) (lv' := [(3, .int x91), (2, .ref (ad 55)), (1, .ref (ad 0)), (0, .ref b)]) hx hb dL_law_1357 hl (k := 0) rfl (by rw [ex91]; rfl) (by decide) rfl (fun ls hl => ?_)
  refine lv_goto (tgt := 18) hx hb dL_law_1360 (by decide) ?_
  have I92 : jI2 σ77 := jI2_fr ((congrFun (f79 2 (by decide)) 0).trans (congrFun (f52 2 (by decide)) 0)) ((congrFun (f79 2 (by decide)) 1).trans (congrFun (f52 2 (by decide)) 1)) ((congrFun (f79 2 (by decide)) 2).trans (congrFun (f52 2 (by decide)) 2)) ((congrFun (f79 2 (by decide)) 3).trans (congrFun (f52 2 (by decide)) 3)) ((f79 6 (by decide)).trans (f52 6 (by decide))) hI2
  have I93 : jI9 σ77 := jI9_fr (congrFun (f79 9 (by decide)) 0) (f79 10 (by decide)) (f79 11 (by decide)) I58
  have I94 : jI12 σ77 := jI12_fr (congrFun (f79 12 (by decide)) 0) (f79 13 (by decide)) I59
  have I95 : jI16 σ77 := jI16_fr ((congrFun (f79 16 (by decide)) 0).trans (congrFun (f52 16 (by decide)) 0)) ((congrFun (f79 16 (by decide)) 1).trans (congrFun (f52 16 (by decide)) 1)) ((congrFun (f79 16 (by decide)) 2).trans (congrFun (f52 16 (by decide)) 2)) ((f79 17 (by decide)).trans (f52 17 (by decide))) hI16
  have I96 : jI18 σ77 := jI18_fr (congrFun (f79 18 (by decide)) 0) (f79 19 (by decide)) I60
  have I97 : jI22 σ77 := jI22_fr (congrFun (f79 22 (by decide)) 0) (f79 23 (by decide)) I61
  have I98 : jI31 σ77 := jI31_fr ((congrFun (f79 31 (by decide)) 8).trans (congrFun (f52 31 (by decide)) 8)) ((congrFun (f79 31 (by decide)) 10).trans (congrFun (f52 31 (by decide)) 10)) ((congrFun (f79 31 (by decide)) 11).trans (congrFun (f52 31 (by decide)) 11)) ((f79 33 (by decide)).trans (f52 33 (by decide))) ((f79 35 (by decide)).trans (f52 35 (by decide))) ((f79 36 (by decide)).trans (f52 36 (by decide))) hI31
  have I99 : jI38 σ77 := jI38_fr ((congrFun (f79 38 (by decide)) 0).trans (congrFun (f52 38 (by decide)) 0)) ((congrFun (f79 38 (by decide)) 1).trans (congrFun (f52 38 (by decide)) 1)) ((f79 39 (by decide)).trans (f52 39 (by decide))) hI38
  have I100 : jI43 σ77 := jI43_fr ((congrFun (f79 43 (by decide)) 8).trans (congrFun (f52 43 (by decide)) 8)) hI43
  have I101 : jI47 σ77 := jI47_fr ((congrFun (f79 47 (by decide)) 0).trans (congrFun (f52 47 (by decide)) 0)) ((f79 48 (by decide)).trans (f52 48 (by decide))) ((f79 49 (by decide)).trans (f52 49 (by decide))) hI47
  have I102 : jI50 σ77 := jI50_fr ((f79 52 (by decide)).trans (f52 52 (by decide))) hI50
  have I103 : jI0 σ77 := jI0_fr ((f79 1 (by decide)).trans (f52 1 (by decide))) hI0
  have I104 : jI26 σ77 := jI26_fr (congrFun (f79 26 (by decide)) 6) I62
  have I105 : jI101 σ77 := jI101_fr ((f80 4 (by decide)).trans (congrFun (f52 55 (by decide)) 4)) ((f80 5 (by decide)).trans (congrFun (f52 55 (by decide)) 5)) ((f79 56 (by decide)).trans (f52 56 (by decide))) ((f79 57 (by decide)).trans (f52 57 (by decide))) ((f79 58 (by decide)).trans (f52 58 (by decide))) ((f79 59 (by decide)).trans (f52 59 (by decide))) hI101
  have I106 : jI102 σ77 := jI102_fr ((f80 6 (by decide)).trans (congrFun (f52 55 (by decide)) 6)) ((f79 60 (by decide)).trans (f52 60 (by decide))) ((f79 61 (by decide)).trans (f52 61 (by decide))) hI102
  have I107 : jI103 σ77 := jI103_fr ((f80 9 (by decide)).trans (congrFun (f52 55 (by decide)) 9)) hI103
  have I108 : jI104 σ77 := jI104_fr ((f80 10 (by decide)).trans (congrFun (f52 55 (by decide)) 10)) ((f80 12 (by decide)).trans (congrFun (f52 55 (by decide)) 12)) ((f80 13 (by decide)).trans (congrFun (f52 55 (by decide)) 13)) ((f79 62 (by decide)).trans (f52 62 (by decide))) ((f79 67 (by decide)).trans (f52 67 (by decide))) hI104
  have I109 : jI106 σ77 := jI106_fr ((f80 32 (by decide)).trans (congrFun (f52 55 (by decide)) 32)) ((f79 70 (by decide)).trans (f52 70 (by decide))) ((f79 71 (by decide)).trans (f52 71 (by decide))) ((f79 72 (by decide)).trans (f52 72 (by decide))) hI106
  have I110 : jI107 σ77 := jI107_fr ((f80 12 (by decide)).trans (congrFun (f52 55 (by decide)) 12)) ((f80 47 (by decide)).trans (congrFun (f52 55 (by decide)) 47)) ((f79 80 (by decide)).trans (f52 80 (by decide))) hI107
  have I111 : jI109 σ77 := jI109_fr ((f80 50 (by decide)).trans (congrFun (f52 55 (by decide)) 50)) hI109
  have I112 : jI110 σ77 := jI110_fr ((f79 86 (by decide)).trans (f52 86 (by decide))) ((f79 87 (by decide)).trans (f52 87 (by decide))) hI110
  have I113 : jI111 σ77 := jI111_fr ((f79 79 (by decide)).trans (f52 79 (by decide))) hI111
  have I114 : jI119 σ77 := jI119_fr ((f79 68 (by decide)).trans (f52 68 (by decide))) hI119
  have p115 : jKept σ77 := jKept.fr ((f79 75 (by decide)).trans (f52 75 (by decide))) ((f79 76 (by decide)).trans (f52 76 (by decide))) ((f79 77 (by decide)).trans (f52 77 (by decide))) hs_jKept
  have p116 : jBook σ77 := jBook.fr ((f80 47 (by decide)).trans (congrFun (f52 55 (by decide)) 47)) ((f80 10 (by decide)).trans (congrFun (f52 55 (by decide)) 10)) ((f79 81 (by decide)).trans (f52 81 (by decide))) hs_jBook
  have p117 : jNd12 σ77 := jNd12.fr (congrFun (f79 12 (by decide)) 0) (congrFun (f79 12 (by decide)) 1) (f79 13 (by decide)) p63
  have p118 : jN67 σ77 := jN67.fr ((f79 24 (by decide)).trans (f52 24 (by decide))) hs_jN67
  have p119 : jBl σ77 := jBl.fr (congrFun (f79 22 (by decide)) 0) (congrFun (f79 22 (by decide)) 1) (f79 23 (by decide)) (congrFun (f79 26 (by decide)) 6) (congrFun (f79 26 (by decide)) 7) (f79 29 (by decide)) (f79 30 (by decide)) p64
  have p120 : jKb σ77 := jKb.fr ((congrFun (f79 31 (by decide)) 8).trans (congrFun (f52 31 (by decide)) 8)) ((congrFun (f79 31 (by decide)) 11).trans (congrFun (f52 31 (by decide)) 11)) ((f79 32 (by decide)).trans (f52 32 (by decide))) hs_jKb
  have p121 : jKh σ77 := jKh.fr ((congrFun (f79 31 (by decide)) 8).trans (congrFun (f52 31 (by decide)) 8)) ((f79 32 (by decide)).trans (f52 32 (by decide))) ((f79 36 (by decide)).trans (f52 36 (by decide))) ((f79 37 (by decide)).trans (f52 37 (by decide))) hs_jKh
  have p122 : jKg σ77 := jKg.fr ((congrFun (f79 31 (by decide)) 8).trans (congrFun (f52 31 (by decide)) 8)) ((congrFun (f79 31 (by decide)) 9).trans (congrFun (f52 31 (by decide)) 9)) ((congrFun (f79 31 (by decide)) 11).trans (congrFun (f52 31 (by decide)) 11)) ((congrFun (f79 31 (by decide)) 12).trans (congrFun (f52 31 (by decide)) 12)) ((f79 32 (by decide)).trans (f52 32 (by decide))) ((f79 33 (by decide)).trans (f52 33 (by decide))) hs_jKg
  have z123 : (σ77 2 0).toInt = (σ 2 0).toInt := (congrArg Int32.toInt (show σ77 2 0 = (σ 2 0) from ((congrFun (f79 2 (by decide)) 0).trans (congrFun (f52 2 (by decide)) 0))))
  have z124 : (σ77 55 6).toInt = (σ 55 6).toInt := (congrArg Int32.toInt (show σ77 55 6 = (σ 55 6) from ((f80 6 (by decide)).trans (congrFun (f52 55 (by decide)) 6))))
  have z125 : (σ77 2 2).toInt = (σ 2 2).toInt := (congrArg Int32.toInt (show σ77 2 2 = (σ 2 2) from ((congrFun (f79 2 (by decide)) 2).trans (congrFun (f52 2 (by decide)) 2))))
  have z126 : (σ77 55 5).toInt = (σ 55 5).toInt := (congrArg Int32.toInt (show σ77 55 5 = (σ 55 5) from ((f80 5 (by decide)).trans (congrFun (f52 55 (by decide)) 5))))
  have z127 : (σ77 2 3).toInt = (σ 2 3).toInt := (congrArg Int32.toInt (show σ77 2 3 = (σ 2 3) from ((congrFun (f79 2 (by decide)) 3).trans (congrFun (f52 2 (by decide)) 3))))
  have z128 : (σ77 55 4).toInt = (σ 55 4).toInt := (congrArg Int32.toInt (show σ77 55 4 = (σ 55 4) from ((f80 4 (by decide)).trans (congrFun (f52 55 (by decide)) 4))))
  have z129 : (σ77 9 0).toInt = (σ50 9 0).toInt := (congrArg Int32.toInt (show σ77 9 0 = (σ50 9 0) from (congrFun (f79 9 (by decide)) 0)))
  have z130 : (σ77 16 0).toInt = (σ 16 0).toInt := (congrArg Int32.toInt (show σ77 16 0 = (σ 16 0) from ((congrFun (f79 16 (by decide)) 0).trans (congrFun (f52 16 (by decide)) 0))))
  have z131 : (σ77 55 10).toInt = (σ 55 10).toInt := (congrArg Int32.toInt (show σ77 55 10 = (σ 55 10) from ((f80 10 (by decide)).trans (congrFun (f52 55 (by decide)) 10))))
  have z132 : (σ77 16 1).toInt = (σ 16 1).toInt := (congrArg Int32.toInt (show σ77 16 1 = (σ 16 1) from ((congrFun (f79 16 (by decide)) 1).trans (congrFun (f52 16 (by decide)) 1))))
  have z133 : (σ77 55 12).toInt = (σ 55 12).toInt := (congrArg Int32.toInt (show σ77 55 12 = (σ 55 12) from ((f80 12 (by decide)).trans (congrFun (f52 55 (by decide)) 12))))
  have z134 : (σ77 16 2).toInt = (σ 16 2).toInt := (congrArg Int32.toInt (show σ77 16 2 = (σ 16 2) from ((congrFun (f79 16 (by decide)) 2).trans (congrFun (f52 16 (by decide)) 2))))
  have z135 : (σ77 55 13).toInt = (σ 55 13).toInt := (congrArg Int32.toInt (show σ77 55 13 = (σ 55 13) from ((f80 13 (by decide)).trans (congrFun (f52 55 (by decide)) 13))))
  have z136 : (σ77 38 0).toInt = (σ 38 0).toInt := (congrArg Int32.toInt (show σ77 38 0 = (σ 38 0) from ((congrFun (f79 38 (by decide)) 0).trans (congrFun (f52 38 (by decide)) 0))))
  have z137 : (σ77 55 32).toInt = (σ 55 32).toInt := (congrArg Int32.toInt (show σ77 55 32 = (σ 55 32) from ((f80 32 (by decide)).trans (congrFun (f52 55 (by decide)) 32))))
  have z138 : (σ77 38 1).toInt = (σ 38 1).toInt := (congrArg Int32.toInt (show σ77 38 1 = (σ 38 1) from ((congrFun (f79 38 (by decide)) 1).trans (congrFun (f52 38 (by decide)) 1))))
  have z139 : (σ77 55 55).toInt = (σ 55 55).toInt := (congrArg Int32.toInt (show σ77 55 55 = (σ 55 55) from ((f80 55 (by decide)).trans (congrFun (f52 55 (by decide)) 55))))
  have z140 : (σ77 47 0).toInt = (σ 47 0).toInt := (congrArg Int32.toInt (show σ77 47 0 = (σ 47 0) from ((congrFun (f79 47 (by decide)) 0).trans (congrFun (f52 47 (by decide)) 0))))
  have z141 : (σ77 55 47).toInt = (σ 55 47).toInt := (congrArg Int32.toInt (show σ77 55 47 = (σ 55 47) from ((f80 47 (by decide)).trans (congrFun (f52 55 (by decide)) 47))))
  have z142 : (σ77 55 30).toInt = (σ 55 30).toInt := (congrArg Int32.toInt (show σ77 55 30 = (σ 55 30) from ((f80 30 (by decide)).trans (congrFun (f52 55 (by decide)) 30))))
  have z143 : (σ77 55 31).toInt = (σ 55 31).toInt := (congrArg Int32.toInt (show σ77 55 31 = (σ 55 31) from ((f80 31 (by decide)).trans (congrFun (f52 55 (by decide)) 31))))
  have z144 : (σ77 2 1).toInt = (σ 2 1).toInt := (congrArg Int32.toInt (show σ77 2 1 = (σ 2 1) from ((congrFun (f79 2 (by decide)) 1).trans (congrFun (f52 2 (by decide)) 1))))
  have z145 : (σ77 55 9).toInt = (σ 55 9).toInt := (congrArg Int32.toInt (show σ77 55 9 = (σ 55 9) from ((f80 9 (by decide)).trans (congrFun (f52 55 (by decide)) 9))))
  have z146 : (σ77 26 6).toInt = (σ50 26 6).toInt := (congrArg Int32.toInt (show σ77 26 6 = (σ50 26 6) from (congrFun (f79 26 (by decide)) 6)))
  have z148 : (σ77 18 0).toInt = (σ50 18 0).toInt := (congrArg Int32.toInt (show σ77 18 0 = (σ50 18 0) from (congrFun (f79 18 (by decide)) 0)))
  have z149 : (σ77 22 0).toInt = (σ50 22 0).toInt := (congrArg Int32.toInt (show σ77 22 0 = (σ50 22 0) from (congrFun (f79 22 (by decide)) 0)))
  exact ih x91 σ77 τ _ _ ls (by have h9 := tx91; omega) ⟨I92, I93, I94, I95, I96, I97, I98, I99, I100, I101, I102, I103, I104, I105, I106, I107, I108, I81, I109, I110, I111, I112, I113, I114, p115, p116, p117, p118, p119, p120, p82, p121, p122, (by omega), (by omega), (by omega), (by omega), (by omega), (by omega), (by omega), (by omega), (by omega), (by omega), (by omega), (by omega), (by omega), (by have h9 := tx91; omega), (show jNumP (σ77 3) (σ77 56) (σ77 6) (σ77 57) (σ77 7) (σ77 58) (σ77 8) (σ77 59) (σ77 55 6).toInt (σ77 55 4).toInt by rw [show σ77 3 = σ 3 from ((f79 3 (by decide)).trans (f52 3 (by decide))), show σ77 56 = σ 56 from ((f79 56 (by decide)).trans (f52 56 (by decide))), show σ77 6 = σ 6 from ((f79 6 (by decide)).trans (f52 6 (by decide))), show σ77 57 = σ 57 from ((f79 57 (by decide)).trans (f52 57 (by decide))), show σ77 7 = σ 7 from ((f79 7 (by decide)).trans (f52 7 (by decide))), show σ77 58 = σ 58 from ((f79 58 (by decide)).trans (f52 58 (by decide))), show σ77 8 = σ 8 from ((f79 8 (by decide)).trans (f52 8 (by decide))), show σ77 59 = σ 59 from ((f79 59 (by decide)).trans (f52 59 (by decide))), show (σ77 55 6).toInt = (σ 55 6).toInt from by omega, show (σ77 55 4).toInt = (σ 55 4).toInt from by omega]; exact hr0), (show jOvP (σ77 56) (σ77 57) (σ77 58) (σ77 59) (σ77 55 4).toInt by rw [show σ77 56 = σ 56 from ((f79 56 (by decide)).trans (f52 56 (by decide))), show σ77 57 = σ 57 from ((f79 57 (by decide)).trans (f52 57 (by decide))), show σ77 58 = σ 58 from ((f79 58 (by decide)).trans (f52 58 (by decide))), show σ77 59 = σ 59 from ((f79 59 (by decide)).trans (f52 59 (by decide))), show (σ77 55 4).toInt = (σ 55 4).toInt from by omega]; exact hr1), (show jTp (σ77 10) (σ77 63) (σ77 55 15).toInt by rw [show σ77 10 = σ 10 from ((f79 10 (by decide)).trans (f52 10 (by decide))), show σ77 63 = σ 63 from ((f79 63 (by decide)).trans (f52 63 (by decide)))]; exact hr2.le (by omega)), (show jSo (σ77 17) (σ77 62) (σ77 16 0).toInt by rw [show σ77 17 = σ 17 from ((f79 17 (by decide)).trans (f52 17 (by decide))), show σ77 62 = σ 62 from ((f79 62 (by decide)).trans (f52 62 (by decide))), show (σ77 16 0).toInt = (σ 16 0).toInt from by omega]; exact hr3), (show jShP (σ77 51) (σ77 52) (σ77 53) (σ77 86) (σ77 87) (σ77 55 32).toInt by rw [show σ77 51 = σ 51 from ((f79 51 (by decide)).trans (f52 51 (by decide))), show σ77 52 = σ 52 from ((f79 52 (by decide)).trans (f52 52 (by decide))), show σ77 53 = σ 53 from ((f79 53 (by decide)).trans (f52 53 (by decide))), show σ77 86 = σ 86 from ((f79 86 (by decide)).trans (f52 86 (by decide))), show σ77 87 = σ 87 from ((f79 87 (by decide)).trans (f52 87 (by decide)))]; exact (hr4.up (by omega) (by omega))), (show jEl (σ77 51) (σ77 52) (τ 54) (τ 88) by rw [show σ77 51 = σ 51 from ((f79 51 (by decide)).trans (f52 51 (by decide))), show σ77 52 = σ 52 from ((f79 52 (by decide)).trans (f52 52 (by decide)))]; exact hr5), (show jByP (σ77 51) (σ77 52) (τ 54) by rw [show σ77 51 = σ 51 from ((f79 51 (by decide)).trans (f52 51 (by decide))), show σ77 52 = σ 52 from ((f79 52 (by decide)).trans (f52 52 (by decide)))]; exact hr6), (show jBk (σ77 48) (σ77 80) (σ77 49) (σ77 81) (σ77 55 47).toInt by rw [show σ77 48 = σ 48 from ((f79 48 (by decide)).trans (f52 48 (by decide))), show σ77 49 = σ 49 from ((f79 49 (by decide)).trans (f52 49 (by decide))), show σ77 80 = σ 80 from ((f79 80 (by decide)).trans (f52 80 (by decide))), show σ77 81 = σ 81 from ((f79 81 (by decide)).trans (f52 81 (by decide))), show (σ77 55 47).toInt = (σ 55 47).toInt from by omega]; exact hr7), (show jKd (σ77 39) (σ77 70) (σ77 55 32).toInt by rw [show σ77 39 = σ 39 from ((f79 39 (by decide)).trans (f52 39 (by decide))), show σ77 70 = σ 70 from ((f79 70 (by decide)).trans (f52 70 (by decide))), show (σ77 55 32).toInt = (σ 55 32).toInt from by omega]; exact hr8), (show jTt (σ77 42) (σ77 85) (σ77 55 55).toInt by rw [show σ77 42 = σ 42 from ((f79 42 (by decide)).trans (f52 42 (by decide))), show σ77 85 = σ 85 from ((f79 85 (by decide)).trans (f52 85 (by decide))), show (σ77 55 55).toInt = (σ 55 55).toInt from by omega]; exact hr9), (fun k hk => by rw [show σ77 4 = σ 4 from ((f79 4 (by decide)).trans (f52 4 (by decide))), show σ77 5 = σ 5 from ((f79 5 (by decide)).trans (f52 5 (by decide))), show σ77 60 = σ 60 from ((f79 60 (by decide)).trans (f52 60 (by decide))), show σ77 61 = σ 61 from ((f79 61 (by decide)).trans (f52 61 (by decide)))]; exact hr10 k (by omega)), (fun nm => by rw [show σ77 19 = σ50 19 from (f79 19 (by decide)), show (σ77 18 0).toInt = (σ50 18 0).toInt from by omega]; exact p90.1 nm), (fun nm => by rw [show σ77 23 = σ50 23 from (f79 23 (by decide)), show (σ77 22 0).toInt = (σ50 22 0).toInt from by omega]; exact p90.2 nm)⟩ hP hS (lv_sub hl [0, 1, 2, 3] rfl)
set_option maxHeartbeats 4000000 in
set_option maxRecDepth 100000 in
theorem law_case_7 {p : Program} {e : Env} {s : State} {m : MethodId} {below : List Frame} {meth : Method} {c : Code} (l : Launch) {b L : Nat} {xs : Nat → Int32} {D : va_G} {cI cL : ClassId} {ad zz : Nat → Nat} (C0 : lw_At p s m meth c b L xs) (hJ : jD ad) (hA : ∀ q, jA ad q → s.heap.size ≤ q) (hK : jK D cI cL s) (hZ : jZ zz (fun q : Nat => s.heap.size ≤ q) s s.heap) {x0 : Int32} (hx0 : 0 ≤ x0.toInt) (hxL : x0.toInt + 6 ≤ (L : Int)) (hL : L ≤ 384) {σ : Nat → Nat → Int32} {τ : Nat → Nat → Int64} {H : Heap} {locs : List Loc} (hS : va_S (fun q : Nat => s.heap.size ≤ q) s.heap H locs) {ls : Array Slot} (hAll : jAll x0.toInt σ τ) (hP : jH D cI cL ad σ τ H) (hl : lv_has ls 4 [(3, .int x0), (2, .ref (ad 55)), (1, .ref (ad 0)), (0, .ref b)]) (ih : ∀ (x1 : Int32) (σ : Nat → Nat → Int32) (τ : Nat → Nat → Int64) (H : Heap) (locs : List Loc) (ls : Array Slot), x1.toInt = x0.toInt + 6 → jAll x1.toInt σ τ → jH D cI cL ad σ τ H → va_S (fun q : Nat => s.heap.size ≤ q) s.heap H locs → lv_has ls 4 [(3, .int x1), (2, .ref (ad 55)), (1, .ref (ad 0)), (0, .ref b)] → W p l e room_1 s m #[Value.ref b] below meth c H locs 90 348600 (lw_Z below #[Value.ref b] s) (F0 m 18 ls [])) : W p l e room_1 s m #[Value.ref b] below meth c H locs 90 348600 (lw_Z below #[Value.ref b] s) (F0 m 417 ls []) := by
  obtain ⟨hx, hb, hr, hml, hown, hts0, hX, hbl, hlocks, hgv⟩ := C0
  have hts : ∀ w ∈ wsL_law, w.before #[Value.ref b] s = true := fun w h => hts0 w (wsL_law_in w h)
  have hbA : ¬ (fun q : Nat => s.heap.size ≤ q) b := Nat.not_le.mpr hbl
  have hown : s.vm.findClass RL = some m.cls := hown
  obtain ⟨hI2, hI9, hI12, hI16, hI18, hI22, hI31, hI38, hI43, hI47, hI50, hI0, hI26, hI101, hI102, hI103, hI104, hI105, hI106, hI107, hI109, hI110, hI111, hI119, hs_jKept, hs_jBook, hs_jNd12, hs_jN67, hs_jBl, hs_jKb, hs_jTR, hs_jKh, hs_jKg, ht0, ht1, ht2, ht3, ht4, ht5, ht6, ht7, ht8, ht9, ht10, ht11, ht12, ht13, hr0, hr1, hr2, hr3, hr4, hr5, hr6, hr7, hr8, hr9, hr10, hr11, hr12⟩ := hAll
  have hL9 : (L : Int) ≤ 384 := by omega
  obtain ⟨i1, i2, i3, i4, i5, w6⟩ : (0 ≤ (σ 2 0).toInt ∧ (σ 2 0).toInt ≤ 4) ∧ (0 ≤ (σ 2 1).toInt ∧ (σ 2 1).toInt ≤ 3) ∧ (0 ≤ (σ 2 2).toInt) ∧ (0 ≤ (σ 2 3).toInt) ∧ ((σ 2 2).toInt + (σ 2 3).toInt ≤ 40) ∧ (∀ k : Nat, k < 40 → 0 ≤ (σ 6 k).toInt ∧ (σ 6 k).toInt ≤ 67) := id hI2
  obtain ⟨i7, w8, w9⟩ : (0 ≤ (σ 9 0).toInt ∧ (σ 9 0).toInt ≤ 80) ∧ (∀ k : Nat, k < 80 → 0 ≤ (σ 10 k).toInt ∧ (σ 10 k).toInt ≤ 255) ∧ (∀ k : Nat, k < 8 → 0 ≤ (σ 11 k).toInt ∧ (σ 11 k).toInt ≤ 3) := id hI9
  obtain ⟨i10, i11, i12, w13⟩ : (1 ≤ (σ 16 0).toInt ∧ (σ 16 0).toInt ≤ 8) ∧ (1 ≤ (σ 16 1).toInt ∧ (σ 16 1).toInt ≤ 12) ∧ (0 ≤ (σ 16 2).toInt ∧ (σ 16 2).toInt ≤ 999) ∧ (∀ k : Nat, k < 8 → 0 ≤ (σ 17 k).toInt ∧ (σ 17 k).toInt ≤ 3) := id hI16
  obtain ⟨i14, i15, w16⟩ : (0 ≤ (σ 38 0).toInt ∧ (σ 38 0).toInt ≤ 20) ∧ (0 ≤ (σ 38 1).toInt ∧ (σ 38 1).toInt ≤ 1000) ∧ (∀ k : Nat, k < 20 → 0 ≤ (σ 39 k).toInt ∧ (σ 39 k).toInt ≤ 6) := id hI38
  obtain ⟨i17, w18, w19⟩ : (0 ≤ (σ 47 0).toInt ∧ (σ 47 0).toInt ≤ 12) ∧ (∀ k : Nat, k < 12 → 0 ≤ (σ 48 k).toInt ∧ (σ 48 k).toInt ≤ 3) ∧ (∀ k : Nat, k < 12 → 0 ≤ (σ 49 k).toInt ∧ (σ 49 k).toInt ≤ 1) := id hI47
  have w20 : ∀ k : Nat, k < 6 → 0 ≤ (σ 52 k).toInt ∧ (σ 52 k).toInt ≤ 60 := hI50
  have i21 : 1 ≤ (σ 26 6).toInt ∧ (σ 26 6).toInt ≤ 8000 := hI26
  obtain ⟨i22, i23, i24, w25, w26, w27, w28⟩ : (0 ≤ (σ 55 5).toInt) ∧ ((σ 55 5).toInt ≤ (σ 55 4).toInt) ∧ ((σ 55 4).toInt ≤ 40) ∧ (∀ k : Nat, k < 68 → (-200) ≤ (σ 56 k).toInt ∧ (σ 56 k).toInt ≤ 500) ∧ (∀ k : Nat, k < 40 → 0 ≤ (σ 57 k).toInt ∧ (σ 57 k).toInt ≤ 67) ∧ (∀ k : Nat, k < 40 → (-200) ≤ (σ 58 k).toInt ∧ (σ 58 k).toInt ≤ 500) ∧ (∀ k : Nat, k < 40 → (-200) ≤ (σ 59 k).toInt ∧ (σ 59 k).toInt ≤ 500) := id hI101
  obtain ⟨i29, w30, w31⟩ : (0 ≤ (σ 55 6).toInt ∧ (σ 55 6).toInt ≤ 4) ∧ (∀ k : Nat, k < 4 → 0 ≤ (σ 60 k).toInt ∧ (σ 60 k).toInt ≤ 50) ∧ (∀ k : Nat, k < 4 → 0 ≤ (σ 61 k).toInt ∧ (σ 61 k).toInt ≤ 20) := id hI102
  have i32 : 0 ≤ (σ 55 9).toInt ∧ (σ 55 9).toInt ≤ 3 := hI103
  obtain ⟨i33, i34, i35, w36, w37⟩ : (1 ≤ (σ 55 10).toInt ∧ (σ 55 10).toInt ≤ 8) ∧ (1 ≤ (σ 55 12).toInt ∧ (σ 55 12).toInt ≤ 12) ∧ (0 ≤ (σ 55 13).toInt ∧ (σ 55 13).toInt ≤ 999) ∧ (∀ k : Nat, k < 8 → 0 ≤ (σ 62 k).toInt ∧ (σ 62 k).toInt ≤ 3) ∧ (∀ k : Nat, k < 8 → 0 ≤ (σ 67 k).toInt ∧ (σ 67 k).toInt ≤ 3) := id hI104
  obtain ⟨i38, w39⟩ : (0 ≤ (σ 55 15).toInt ∧ (σ 55 15).toInt ≤ 80) ∧ (∀ k : Nat, k < 2 → (-1) ≤ (σ 65 k).toInt ∧ (σ 65 k).toInt ≤ 80) := id hI105
  obtain ⟨i40, w41, w42, w43⟩ : (0 ≤ (σ 55 32).toInt ∧ (σ 55 32).toInt ≤ 20) ∧ (∀ k : Nat, k < 20 → 0 ≤ (σ 70 k).toInt ∧ (σ 70 k).toInt ≤ 6) ∧ (∀ k : Nat, k < 20 → 0 ≤ (σ 71 k).toInt ∧ (σ 71 k).toInt ≤ 8) ∧ (∀ k : Nat, k < 160 → 0 ≤ (σ 72 k).toInt ∧ (σ 72 k).toInt ≤ 3) := id hI106
  obtain ⟨i44, i45, w46⟩ : (0 ≤ (σ 55 47).toInt ∧ (σ 55 47).toInt ≤ 12) ∧ ((σ 55 47).toInt ≤ (σ 55 12).toInt) ∧ (∀ k : Nat, k < 12 → 0 ≤ (σ 80 k).toInt ∧ (σ 80 k).toInt ≤ 3) := id hI107
  have hs_jOk3 : jOk3 σ := hr0.ok hr1.1
  refine lv_aload_n hx hb dL_law_417 rfl (lv_at hl 2 rfl) ?_
  refine lv_aload_n hx hb dL_law_418 rfl (lv_at hl 3 rfl) ?_
  refine lv_iload_n hx hb dL_law_419 rfl (lv_at hl 0 rfl) ?_
  refine lv_iconst (v := 1) hx hb dL_law_420 (by decide) ?_
  have g47 := jrg (rfl : x0.toInt = x0.toInt)
  refine lv_iadd hx hb dL_law_421 ?_
  refine lv_topi (fun x48 ex48 => ?_)
  have tx48 : x48.toInt = x0.toInt + 1 := (jadd ex48 rfl jz_1 (by omega) (by omega)).trans (by omega)
  refine va_sld hx hb hX hbl hbA hS (jin tx48 (by omega) (by omega)) dL_law_422 ?_
  have g49 := jrg (rfl : (xs x48.toNatClampNeg).toInt = (xs x48.toNatClampNeg).toInt)
  refine jcallV (As := [.int (xs x48.toNatClampNeg)]) (rest := []) ⟨hx, hb, hml, hown, hts⟩ hK hP hA hS hZ (c_X11_of l D cI cL ad zz hJ σ τ (xs x48.toNatClampNeg) ((xs x48.toNatClampNeg).toInt) rfl hI16) cw_RL_45 (jc_0 cI cL ad σ τ) rfl ⟨Nat.le_of_ble_eq_true rfl, Nat.le_of_ble_eq_true rfl⟩ rfl rfl rfl hl.1 rfl (Nat.le_of_ble_eq_true rfl) dL_law_423 ⟨Nat.le_of_ble_eq_true rfl, Nat.le_of_ble_eq_true rfl⟩ (fun r51 σ50 τ50 H locs h50 hP hS => ?_)
  obtain ⟨⟨rfl, rfl⟩, h50⟩ := h50
  rcases h50 with h52 | h53 | h54 | h55 | h56
  · obtain ⟨q59, k57, k58⟩ := h52
    refine lv_pop hx hb dL_law_426 rfl ?_
    refine lv_aload_n hx hb dL_law_427 rfl (lv_at hl 1 rfl) ?_
    refine lv_aload_n hx hb dL_law_428 rfl (lv_at hl 3 rfl) ?_
    refine lv_iload_n hx hb dL_law_429 rfl (lv_at hl 0 rfl) ?_
    refine lv_iconst (v := 1) hx hb dL_law_430 (by decide) ?_
    refine lv_iadd hx hb dL_law_431 ?_
    refine jtopr ex48.symm ?_
    refine va_sld hx hb hX hbl hbA hS (jin tx48 (by omega) (by omega)) dL_law_432 ?_
    refine jcallV (As := [.int (xs x48.toNatClampNeg)]) (rest := []) ⟨hx, hb, hml, hown, hts⟩ hK hP hA hS hZ (c_X12_of l D cI cL ad zz hJ σ τ (xs x48.toNatClampNeg) ((xs x48.toNatClampNeg).toInt) rfl hI104 hI107) cw_RL_48 (jc_55 cI cL ad σ τ) rfl ⟨Nat.le_of_ble_eq_true rfl, Nat.le_of_ble_eq_true rfl⟩ rfl rfl rfl hl.1 rfl (Nat.le_of_ble_eq_true rfl) dL_law_433 ⟨Nat.le_of_ble_eq_true rfl, Nat.le_of_ble_eq_true rfl⟩ (fun r61 σ60 τ60 H locs h60 hP hS => ?_)
    obtain ⟨⟨rfl, rfl⟩, h60⟩ := h60
    rcases h60 with h62 | h63 | h64 | h65 | h66
    · obtain ⟨q69, k67, k68⟩ := h62
      refine lv_pop hx hb dL_law_436 rfl ?_
      refine lv_goto (tgt := 1357) hx hb dL_law_437 (by decide) ?_
      obtain ⟨x70, ex70⟩ : ∃ y : Int32, y = x0 + 6 := ⟨_, rfl⟩
      have tx70 : x70.toInt = x0.toInt + 6 := (jadd ex70 rfl jz_6 (by omega) (by omega)).trans (by omega)
      refine lv_iinc (v := x70) (lv' := [(3, .int x70), (2, .ref (ad 55)), (1, .ref (ad 0)), (0, .ref b)]) hx hb dL_law_1357 hl (k := 0) rfl (by rw [ex70]; rfl) (by decide) rfl (fun ls hl => ?_)
      refine lv_goto (tgt := 18) hx hb dL_law_1360 (by decide) ?_
      exact ih x70 σ τ _ _ ls (by have h9 := tx70; omega) ⟨hI2, hI9, hI12, hI16, hI18, hI22, hI31, hI38, hI43, hI47, hI50, hI0, hI26, hI101, hI102, hI103, hI104, hI105, hI106, hI107, hI109, hI110, hI111, hI119, hs_jKept, hs_jBook, hs_jNd12, hs_jN67, hs_jBl, hs_jKb, hs_jTR, hs_jKh, hs_jKg, (by omega), (by omega), (by omega), (by omega), (by omega), (by omega), (by omega), (by omega), (by omega), (by omega), (by omega), (by omega), (by omega), (by have h9 := tx70; omega), hr0, hr1, hr2, hr3, hr4, hr5, hr6, hr7, hr8, hr9, hr10, hr11, hr12⟩ hP hS (lv_sub hl [0, 1, 2, 3] rfl)
    · obtain ⟨q73, k71, k72⟩ := h63
      exact absurd (by omega : False) id
    · obtain ⟨q76, k74, k75⟩ := h64
      exact absurd (by omega : False) id
    · obtain ⟨q80, k77, k78, k79⟩ := h65
      exact absurd (by omega : False) id
    · obtain ⟨q82, k81⟩ := h66
      exact absurd (by omega : False) id
  · obtain ⟨q85, k83, k84⟩ := h53
    refine lv_pop hx hb dL_law_426 rfl ?_
    refine lv_aload_n hx hb dL_law_427 rfl (lv_at hl 1 rfl) ?_
    refine lv_aload_n hx hb dL_law_428 rfl (lv_at hl 3 rfl) ?_
    refine lv_iload_n hx hb dL_law_429 rfl (lv_at hl 0 rfl) ?_
    refine lv_iconst (v := 1) hx hb dL_law_430 (by decide) ?_
    refine lv_iadd hx hb dL_law_431 ?_
    refine jtopr ex48.symm ?_
    refine va_sld hx hb hX hbl hbA hS (jin tx48 (by omega) (by omega)) dL_law_432 ?_
    refine jcallV (As := [.int (xs x48.toNatClampNeg)]) (rest := []) ⟨hx, hb, hml, hown, hts⟩ hK hP hA hS hZ (c_X12_of l D cI cL ad zz hJ σ τ (xs x48.toNatClampNeg) ((xs x48.toNatClampNeg).toInt) rfl hI104 hI107) cw_RL_48 (jc_55 cI cL ad σ τ) rfl ⟨Nat.le_of_ble_eq_true rfl, Nat.le_of_ble_eq_true rfl⟩ rfl rfl rfl hl.1 rfl (Nat.le_of_ble_eq_true rfl) dL_law_433 ⟨Nat.le_of_ble_eq_true rfl, Nat.le_of_ble_eq_true rfl⟩ (fun r87 σ86 τ86 H locs h86 hP hS => ?_)
    obtain ⟨⟨rfl, rfl⟩, h86⟩ := h86
    rcases h86 with h88 | h89 | h90 | h91 | h92
    · obtain ⟨q95, k93, k94⟩ := h88
      exact absurd (by omega : False) id
    · obtain ⟨q98, k96, k97⟩ := h89
      refine lv_pop hx hb dL_law_436 rfl ?_
      refine lv_goto (tgt := 1357) hx hb dL_law_437 (by decide) ?_
      obtain ⟨x99, ex99⟩ : ∃ y : Int32, y = x0 + 6 := ⟨_, rfl⟩
      have tx99 : x99.toInt = x0.toInt + 6 := (jadd ex99 rfl jz_6 (by omega) (by omega)).trans (by omega)
      refine lv_iinc (v := x99) (lv' := [(3, .int x99), (2, .ref (ad 55)), (1, .ref (ad 0)), (0, .ref b)]) hx hb dL_law_1357 hl (k := 0) rfl (by rw [ex99]; rfl) (by decide) rfl (fun ls hl => ?_)
      refine lv_goto (tgt := 18) hx hb dL_law_1360 (by decide) ?_
      exact ih x99 σ τ _ _ ls (by have h9 := tx99; omega) ⟨hI2, hI9, hI12, hI16, hI18, hI22, hI31, hI38, hI43, hI47, hI50, hI0, hI26, hI101, hI102, hI103, hI104, hI105, hI106, hI107, hI109, hI110, hI111, hI119, hs_jKept, hs_jBook, hs_jNd12, hs_jN67, hs_jBl, hs_jKb, hs_jTR, hs_jKh, hs_jKg, (by omega), (by omega), (by omega), (by omega), (by omega), (by omega), (by omega), (by omega), (by omega), (by omega), (by omega), (by omega), (by omega), (by have h9 := tx99; omega), hr0, hr1, hr2, hr3, hr4, hr5, hr6, hr7, hr8, hr9, hr10, hr11, hr12⟩ hP hS (lv_sub hl [0, 1, 2, 3] rfl)
    · obtain ⟨q102, k100, k101⟩ := h90
      exact absurd (by omega : False) id
    · obtain ⟨q106, k103, k104, k105⟩ := h91
      exact absurd (by omega : False) id
    · obtain ⟨q108, k107⟩ := h92
      exact absurd (by omega : False) id
  · obtain ⟨q111, k109, k110⟩ := h54
    refine lv_pop hx hb dL_law_426 rfl ?_
    refine lv_aload_n hx hb dL_law_427 rfl (lv_at hl 1 rfl) ?_
    refine lv_aload_n hx hb dL_law_428 rfl (lv_at hl 3 rfl) ?_
    refine lv_iload_n hx hb dL_law_429 rfl (lv_at hl 0 rfl) ?_
    refine lv_iconst (v := 1) hx hb dL_law_430 (by decide) ?_
    refine lv_iadd hx hb dL_law_431 ?_
    refine jtopr ex48.symm ?_
    refine va_sld hx hb hX hbl hbA hS (jin tx48 (by omega) (by omega)) dL_law_432 ?_
    refine jcallV (As := [.int (xs x48.toNatClampNeg)]) (rest := []) ⟨hx, hb, hml, hown, hts⟩ hK hP hA hS hZ (c_X12_of l D cI cL ad zz hJ σ τ (xs x48.toNatClampNeg) ((xs x48.toNatClampNeg).toInt) rfl hI104 hI107) cw_RL_48 (jc_55 cI cL ad σ τ) rfl ⟨Nat.le_of_ble_eq_true rfl, Nat.le_of_ble_eq_true rfl⟩ rfl rfl rfl hl.1 rfl (Nat.le_of_ble_eq_true rfl) dL_law_433 ⟨Nat.le_of_ble_eq_true rfl, Nat.le_of_ble_eq_true rfl⟩ (fun r113 σ112 τ112 H locs h112 hP hS => ?_)
    obtain ⟨⟨rfl, rfl⟩, h112⟩ := h112
    rcases h112 with h114 | h115 | h116 | h117 | h118
    · obtain ⟨q121, k119, k120⟩ := h114
      exact absurd (by omega : False) id
    · obtain ⟨q124, k122, k123⟩ := h115
      exact absurd (by omega : False) id
    · obtain ⟨q127, k125, k126⟩ := h116
      refine lv_pop hx hb dL_law_436 rfl ?_
      refine lv_goto (tgt := 1357) hx hb dL_law_437 (by decide) ?_
      obtain ⟨x128, ex128⟩ : ∃ y : Int32, y = x0 + 6 := ⟨_, rfl⟩
      have tx128 : x128.toInt = x0.toInt + 6 := (jadd ex128 rfl jz_6 (by omega) (by omega)).trans (by omega)
      refine lv_iinc (v := x128) (lv' := [(3, .int x128), (2, .ref (ad 55)), (1, .ref (ad 0)), (0, .ref b)]) hx hb dL_law_1357 hl (k := 0) rfl (by rw [ex128]; rfl) (by decide) rfl (fun ls hl => ?_)
      refine lv_goto (tgt := 18) hx hb dL_law_1360 (by decide) ?_
      exact ih x128 σ τ _ _ ls (by have h9 := tx128; omega) ⟨hI2, hI9, hI12, hI16, hI18, hI22, hI31, hI38, hI43, hI47, hI50, hI0, hI26, hI101, hI102, hI103, hI104, hI105, hI106, hI107, hI109, hI110, hI111, hI119, hs_jKept, hs_jBook, hs_jNd12, hs_jN67, hs_jBl, hs_jKb, hs_jTR, hs_jKh, hs_jKg, (by omega), (by omega), (by omega), (by omega), (by omega), (by omega), (by omega), (by omega), (by omega), (by omega), (by omega), (by omega), (by omega), (by have h9 := tx128; omega), hr0, hr1, hr2, hr3, hr4, hr5, hr6, hr7, hr8, hr9, hr10, hr11, hr12⟩ hP hS (lv_sub hl [0, 1, 2, 3] rfl)
    · obtain ⟨q132, k129, k130, k131⟩ := h117
      exact absurd (by omega : False) id
    · obtain ⟨q134, k133⟩ := h118
      exact absurd (by omega : False) id
  · obtain ⟨q138, k135, k136, k137⟩ := h55
    refine lv_pop hx hb dL_law_426 rfl ?_
    refine lv_aload_n hx hb dL_law_427 rfl (lv_at hl 1 rfl) ?_
    refine lv_aload_n hx hb dL_law_428 rfl (lv_at hl 3 rfl) ?_
    refine lv_iload_n hx hb dL_law_429 rfl (lv_at hl 0 rfl) ?_
    refine lv_iconst (v := 1) hx hb dL_law_430 (by decide) ?_
    refine lv_iadd hx hb dL_law_431 ?_
    refine jtopr ex48.symm ?_
    refine va_sld hx hb hX hbl hbA hS (jin tx48 (by omega) (by omega)) dL_law_432 ?_
    refine jcallV (As := [.int (xs x48.toNatClampNeg)]) (rest := []) ⟨hx, hb, hml, hown, hts⟩ hK hP hA hS hZ (c_X12_of l D cI cL ad zz hJ σ τ (xs x48.toNatClampNeg) ((xs x48.toNatClampNeg).toInt) rfl hI104 hI107) cw_RL_48 (jc_55 cI cL ad σ τ) rfl ⟨Nat.le_of_ble_eq_true rfl, Nat.le_of_ble_eq_true rfl⟩ rfl rfl rfl hl.1 rfl (Nat.le_of_ble_eq_true rfl) dL_law_433 ⟨Nat.le_of_ble_eq_true rfl, Nat.le_of_ble_eq_true rfl⟩ (fun r140 σ139 τ139 H locs h139 hP hS => ?_)
    obtain ⟨⟨rfl, rfl⟩, h139⟩ := h139
    rcases h139 with h141 | h142 | h143 | h144 | h145
    · obtain ⟨q148, k146, k147⟩ := h141
      exact absurd (by omega : False) id
    · obtain ⟨q151, k149, k150⟩ := h142
      exact absurd (by omega : False) id
    · obtain ⟨q154, k152, k153⟩ := h143
      exact absurd (by omega : False) id
    · obtain ⟨q158, k155, k156, k157⟩ := h144
      refine lv_pop hx hb dL_law_436 rfl ?_
      refine lv_goto (tgt := 1357) hx hb dL_law_437 (by decide) ?_
      obtain ⟨x159, ex159⟩ : ∃ y : Int32, y = x0 + 6 := ⟨_, rfl⟩
      have tx159 : x159.toInt = x0.toInt + 6 := (jadd ex159 rfl jz_6 (by omega) (by omega)).trans (by omega)
      refine lv_iinc (v := x159) (lv' := [(3, .int x159), (2, .ref (ad 55)), (1, .ref (ad 0)), (0, .ref b)]) hx hb dL_law_1357 hl (k := 0) rfl (by rw [ex159]; rfl) (by decide) rfl (fun ls hl => ?_)
      refine lv_goto (tgt := 18) hx hb dL_law_1360 (by decide) ?_
      exact ih x159 σ τ _ _ ls (by have h9 := tx159; omega) ⟨hI2, hI9, hI12, hI16, hI18, hI22, hI31, hI38, hI43, hI47, hI50, hI0, hI26, hI101, hI102, hI103, hI104, hI105, hI106, hI107, hI109, hI110, hI111, hI119, hs_jKept, hs_jBook, hs_jNd12, hs_jN67, hs_jBl, hs_jKb, hs_jTR, hs_jKh, hs_jKg, (by omega), (by omega), (by omega), (by omega), (by omega), (by omega), (by omega), (by omega), (by omega), (by omega), (by omega), (by omega), (by omega), (by have h9 := tx159; omega), hr0, hr1, hr2, hr3, hr4, hr5, hr6, hr7, hr8, hr9, hr10, hr11, hr12⟩ hP hS (lv_sub hl [0, 1, 2, 3] rfl)
    · obtain ⟨q161, k160⟩ := h145
      exact absurd (by omega : False) id
  · obtain ⟨q163, k162⟩ := h56
    have q163 := q163.symm
    subst q163
    refine lv_pop hx hb dL_law_426 rfl ?_
    refine lv_aload_n hx hb dL_law_427 rfl (lv_at hl 1 rfl) ?_
    refine lv_aload_n hx hb dL_law_428 rfl (lv_at hl 3 rfl) ?_
    refine lv_iload_n hx hb dL_law_429 rfl (lv_at hl 0 rfl) ?_
    refine lv_iconst (v := 1) hx hb dL_law_430 (by decide) ?_
    refine lv_iadd hx hb dL_law_431 ?_
    refine jtopr ex48.symm ?_
    refine va_sld hx hb hX hbl hbA hS (jin tx48 (by omega) (by omega)) dL_law_432 ?_
    refine jcallV (As := [.int (xs x48.toNatClampNeg)]) (rest := []) ⟨hx, hb, hml, hown, hts⟩ hK hP hA hS hZ (c_X12_of l D cI cL ad zz hJ σ τ (xs x48.toNatClampNeg) ((xs x48.toNatClampNeg).toInt) rfl hI104 hI107) cw_RL_48 (jc_55 cI cL ad σ τ) rfl ⟨Nat.le_of_ble_eq_true rfl, Nat.le_of_ble_eq_true rfl⟩ rfl rfl rfl hl.1 rfl (Nat.le_of_ble_eq_true rfl) dL_law_433 ⟨Nat.le_of_ble_eq_true rfl, Nat.le_of_ble_eq_true rfl⟩ (fun r165 σ164 τ164 H locs h164 hP hS => ?_)
    obtain ⟨⟨rfl, rfl⟩, h164⟩ := h164
    rcases h164 with h166 | h167 | h168 | h169 | h170
    · obtain ⟨q173, k171, k172⟩ := h166
      exact absurd (by omega : False) id
    · obtain ⟨q176, k174, k175⟩ := h167
      exact absurd (by omega : False) id
    · obtain ⟨q179, k177, k178⟩ := h168
      exact absurd (by omega : False) id
    · obtain ⟨q183, k180, k181, k182⟩ := h169
      exact absurd (by omega : False) id
    · obtain ⟨q185, k184⟩ := h170
      have q185 := q185.symm
      subst q185
      refine lv_pop hx hb dL_law_436 rfl ?_
      refine lv_goto (tgt := 1357) hx hb dL_law_437 (by decide) ?_
      obtain ⟨x186, ex186⟩ : ∃ y : Int32, y = x0 + 6 := ⟨_, rfl⟩
      have tx186 : x186.toInt = x0.toInt + 6 := (jadd ex186 rfl jz_6 (by omega) (by omega)).trans (by omega)
      refine lv_iinc (v := x186) (lv' := [(3, .int x186), (2, .ref (ad 55)), (1, .ref (ad 0)), (0, .ref b)]) hx hb dL_law_1357 hl (k := 0) rfl (by rw [ex186]; rfl) (by decide) rfl (fun ls hl => ?_)
      refine lv_goto (tgt := 18) hx hb dL_law_1360 (by decide) ?_
      exact ih x186 σ τ _ _ ls (by have h9 := tx186; omega) ⟨hI2, hI9, hI12, hI16, hI18, hI22, hI31, hI38, hI43, hI47, hI50, hI0, hI26, hI101, hI102, hI103, hI104, hI105, hI106, hI107, hI109, hI110, hI111, hI119, hs_jKept, hs_jBook, hs_jNd12, hs_jN67, hs_jBl, hs_jKb, hs_jTR, hs_jKh, hs_jKg, (by omega), (by omega), (by omega), (by omega), (by omega), (by omega), (by omega), (by omega), (by omega), (by omega), (by omega), (by omega), (by omega), (by have h9 := tx186; omega), hr0, hr1, hr2, hr3, hr4, hr5, hr6, hr7, hr8, hr9, hr10, hr11, hr12⟩ hP hS (lv_sub hl [0, 1, 2, 3] rfl)
set_option maxHeartbeats 4000000 in
set_option maxRecDepth 100000 in
theorem law_case_8 {p : Program} {e : Env} {s : State} {m : MethodId} {below : List Frame} {meth : Method} {c : Code} (l : Launch) {b L : Nat} {xs : Nat → Int32} {D : va_G} {cI cL : ClassId} {ad zz : Nat → Nat} (C0 : lw_At p s m meth c b L xs) (hJ : jD ad) (hA : ∀ q, jA ad q → s.heap.size ≤ q) (hK : jK D cI cL s) (hZ : jZ zz (fun q : Nat => s.heap.size ≤ q) s s.heap) {x0 : Int32} (hx0 : 0 ≤ x0.toInt) (hxL : x0.toInt + 6 ≤ (L : Int)) (hL : L ≤ 384) {σ : Nat → Nat → Int32} {τ : Nat → Nat → Int64} {H : Heap} {locs : List Loc} (hS : va_S (fun q : Nat => s.heap.size ≤ q) s.heap H locs) {ls : Array Slot} (hAll : jAll x0.toInt σ τ) (hP : jH D cI cL ad σ τ H) (hl : lv_has ls 4 [(3, .int x0), (2, .ref (ad 55)), (1, .ref (ad 0)), (0, .ref b)]) (ih : ∀ (x1 : Int32) (σ : Nat → Nat → Int32) (τ : Nat → Nat → Int64) (H : Heap) (locs : List Loc) (ls : Array Slot), x1.toInt = x0.toInt + 6 → jAll x1.toInt σ τ → jH D cI cL ad σ τ H → va_S (fun q : Nat => s.heap.size ≤ q) s.heap H locs → lv_has ls 4 [(3, .int x1), (2, .ref (ad 55)), (1, .ref (ad 0)), (0, .ref b)] → W p l e room_1 s m #[Value.ref b] below meth c H locs 90 348600 (lw_Z below #[Value.ref b] s) (F0 m 18 ls [])) : W p l e room_1 s m #[Value.ref b] below meth c H locs 90 348600 (lw_Z below #[Value.ref b] s) (F0 m 440 ls []) := by
  obtain ⟨hx, hb, hr, hml, hown, hts0, hX, hbl, hlocks, hgv⟩ := C0
  have hts : ∀ w ∈ wsL_law, w.before #[Value.ref b] s = true := fun w h => hts0 w (wsL_law_in w h)
  have hbA : ¬ (fun q : Nat => s.heap.size ≤ q) b := Nat.not_le.mpr hbl
  have hown : s.vm.findClass RL = some m.cls := hown
  obtain ⟨hI2, hI9, hI12, hI16, hI18, hI22, hI31, hI38, hI43, hI47, hI50, hI0, hI26, hI101, hI102, hI103, hI104, hI105, hI106, hI107, hI109, hI110, hI111, hI119, hs_jKept, hs_jBook, hs_jNd12, hs_jN67, hs_jBl, hs_jKb, hs_jTR, hs_jKh, hs_jKg, ht0, ht1, ht2, ht3, ht4, ht5, ht6, ht7, ht8, ht9, ht10, ht11, ht12, ht13, hr0, hr1, hr2, hr3, hr4, hr5, hr6, hr7, hr8, hr9, hr10, hr11, hr12⟩ := hAll
  have hL9 : (L : Int) ≤ 384 := by omega
  obtain ⟨i1, i2, i3, i4, i5, w6⟩ : (0 ≤ (σ 2 0).toInt ∧ (σ 2 0).toInt ≤ 4) ∧ (0 ≤ (σ 2 1).toInt ∧ (σ 2 1).toInt ≤ 3) ∧ (0 ≤ (σ 2 2).toInt) ∧ (0 ≤ (σ 2 3).toInt) ∧ ((σ 2 2).toInt + (σ 2 3).toInt ≤ 40) ∧ (∀ k : Nat, k < 40 → 0 ≤ (σ 6 k).toInt ∧ (σ 6 k).toInt ≤ 67) := id hI2
  obtain ⟨i7, w8, w9⟩ : (0 ≤ (σ 9 0).toInt ∧ (σ 9 0).toInt ≤ 80) ∧ (∀ k : Nat, k < 80 → 0 ≤ (σ 10 k).toInt ∧ (σ 10 k).toInt ≤ 255) ∧ (∀ k : Nat, k < 8 → 0 ≤ (σ 11 k).toInt ∧ (σ 11 k).toInt ≤ 3) := id hI9
  obtain ⟨i10, i11, i12, w13⟩ : (1 ≤ (σ 16 0).toInt ∧ (σ 16 0).toInt ≤ 8) ∧ (1 ≤ (σ 16 1).toInt ∧ (σ 16 1).toInt ≤ 12) ∧ (0 ≤ (σ 16 2).toInt ∧ (σ 16 2).toInt ≤ 999) ∧ (∀ k : Nat, k < 8 → 0 ≤ (σ 17 k).toInt ∧ (σ 17 k).toInt ≤ 3) := id hI16
  obtain ⟨i14, i15, w16⟩ : (0 ≤ (σ 38 0).toInt ∧ (σ 38 0).toInt ≤ 20) ∧ (0 ≤ (σ 38 1).toInt ∧ (σ 38 1).toInt ≤ 1000) ∧ (∀ k : Nat, k < 20 → 0 ≤ (σ 39 k).toInt ∧ (σ 39 k).toInt ≤ 6) := id hI38
  obtain ⟨i17, w18, w19⟩ : (0 ≤ (σ 47 0).toInt ∧ (σ 47 0).toInt ≤ 12) ∧ (∀ k : Nat, k < 12 → 0 ≤ (σ 48 k).toInt ∧ (σ 48 k).toInt ≤ 3) ∧ (∀ k : Nat, k < 12 → 0 ≤ (σ 49 k).toInt ∧ (σ 49 k).toInt ≤ 1) := id hI47
  have w20 : ∀ k : Nat, k < 6 → 0 ≤ (σ 52 k).toInt ∧ (σ 52 k).toInt ≤ 60 := hI50
  have i21 : 1 ≤ (σ 26 6).toInt ∧ (σ 26 6).toInt ≤ 8000 := hI26
  obtain ⟨i22, i23, i24, w25, w26, w27, w28⟩ : (0 ≤ (σ 55 5).toInt) ∧ ((σ 55 5).toInt ≤ (σ 55 4).toInt) ∧ ((σ 55 4).toInt ≤ 40) ∧ (∀ k : Nat, k < 68 → (-200) ≤ (σ 56 k).toInt ∧ (σ 56 k).toInt ≤ 500) ∧ (∀ k : Nat, k < 40 → 0 ≤ (σ 57 k).toInt ∧ (σ 57 k).toInt ≤ 67) ∧ (∀ k : Nat, k < 40 → (-200) ≤ (σ 58 k).toInt ∧ (σ 58 k).toInt ≤ 500) ∧ (∀ k : Nat, k < 40 → (-200) ≤ (σ 59 k).toInt ∧ (σ 59 k).toInt ≤ 500) := id hI101
  obtain ⟨i29, w30, w31⟩ : (0 ≤ (σ 55 6).toInt ∧ (σ 55 6).toInt ≤ 4) ∧ (∀ k : Nat, k < 4 → 0 ≤ (σ 60 k).toInt ∧ (σ 60 k).toInt ≤ 50) ∧ (∀ k : Nat, k < 4 → 0 ≤ (σ 61 k).toInt ∧ (σ 61 k).toInt ≤ 20) := id hI102
  have i32 : 0 ≤ (σ 55 9).toInt ∧ (σ 55 9).toInt ≤ 3 := hI103
  obtain ⟨i33, i34, i35, w36, w37⟩ : (1 ≤ (σ 55 10).toInt ∧ (σ 55 10).toInt ≤ 8) ∧ (1 ≤ (σ 55 12).toInt ∧ (σ 55 12).toInt ≤ 12) ∧ (0 ≤ (σ 55 13).toInt ∧ (σ 55 13).toInt ≤ 999) ∧ (∀ k : Nat, k < 8 → 0 ≤ (σ 62 k).toInt ∧ (σ 62 k).toInt ≤ 3) ∧ (∀ k : Nat, k < 8 → 0 ≤ (σ 67 k).toInt ∧ (σ 67 k).toInt ≤ 3) := id hI104
  obtain ⟨i38, w39⟩ : (0 ≤ (σ 55 15).toInt ∧ (σ 55 15).toInt ≤ 80) ∧ (∀ k : Nat, k < 2 → (-1) ≤ (σ 65 k).toInt ∧ (σ 65 k).toInt ≤ 80) := id hI105
  obtain ⟨i40, w41, w42, w43⟩ : (0 ≤ (σ 55 32).toInt ∧ (σ 55 32).toInt ≤ 20) ∧ (∀ k : Nat, k < 20 → 0 ≤ (σ 70 k).toInt ∧ (σ 70 k).toInt ≤ 6) ∧ (∀ k : Nat, k < 20 → 0 ≤ (σ 71 k).toInt ∧ (σ 71 k).toInt ≤ 8) ∧ (∀ k : Nat, k < 160 → 0 ≤ (σ 72 k).toInt ∧ (σ 72 k).toInt ≤ 3) := id hI106
  obtain ⟨i44, i45, w46⟩ : (0 ≤ (σ 55 47).toInt ∧ (σ 55 47).toInt ≤ 12) ∧ ((σ 55 47).toInt ≤ (σ 55 12).toInt) ∧ (∀ k : Nat, k < 12 → 0 ≤ (σ 80 k).toInt ∧ (σ 80 k).toInt ≤ 3) := id hI107
  have hs_jOk3 : jOk3 σ := hr0.ok hr1.1
  refine lv_aload_n hx hb dL_law_440 rfl (lv_at hl 2 rfl) ?_
  refine lv_aload_n hx hb dL_law_441 rfl (lv_at hl 3 rfl) ?_
  refine lv_iload_n hx hb dL_law_442 rfl (lv_at hl 0 rfl) ?_
  refine lv_iconst (v := 1) hx hb dL_law_443 (by decide) ?_
  have g47 := jrg (rfl : x0.toInt = x0.toInt)
  refine lv_iadd hx hb dL_law_444 ?_
  refine lv_topi (fun x48 ex48 => ?_)
  have tx48 : x48.toInt = x0.toInt + 1 := (jadd ex48 rfl jz_1 (by omega) (by omega)).trans (by omega)
  refine va_sld hx hb hX hbl hbA hS (jin tx48 (by omega) (by omega)) dL_law_445 ?_
  have g49 := jrg (rfl : (xs x48.toNatClampNeg).toInt = (xs x48.toNatClampNeg).toInt)
  refine lv_aload_n hx hb dL_law_446 rfl (lv_at hl 3 rfl) ?_
  refine lv_iload_n hx hb dL_law_447 rfl (lv_at hl 0 rfl) ?_
  refine lv_iconst (v := 2) hx hb dL_law_448 (by decide) ?_
  refine lv_iadd hx hb dL_law_449 ?_
  refine lv_topi (fun x50 ex50 => ?_)
  have tx50 : x50.toInt = x0.toInt + 2 := (jadd ex50 rfl jz_2 (by omega) (by omega)).trans (by omega)
  refine va_sld hx hb hX hbl hbA hS (jin tx50 (by omega) (by omega)) dL_law_450 ?_
  have g51 := jrg (rfl : (xs x50.toNatClampNeg).toInt = (xs x50.toNatClampNeg).toInt)
  refine lv_aload_n hx hb dL_law_451 rfl (lv_at hl 3 rfl) ?_
  refine lv_iload_n hx hb dL_law_452 rfl (lv_at hl 0 rfl) ?_
  refine lv_iconst (v := 3) hx hb dL_law_453 (by decide) ?_
  refine lv_iadd hx hb dL_law_454 ?_
  refine lv_topi (fun x52 ex52 => ?_)
  have tx52 : x52.toInt = x0.toInt + 3 := (jadd ex52 rfl jz_3 (by omega) (by omega)).trans (by omega)
  refine va_sld hx hb hX hbl hbA hS (jin tx52 (by omega) (by omega)) dL_law_455 ?_
  have g53 := jrg (rfl : (xs x52.toNatClampNeg).toInt = (xs x52.toNatClampNeg).toInt)
  refine jcallV (As := [.int (xs x48.toNatClampNeg), .int (xs x50.toNatClampNeg), .int (xs x52.toNatClampNeg)]) (rest := []) ⟨hx, hb, hml, hown, hts⟩ hK hP hA hS hZ (c_X11_over l D cI cL ad zz hJ σ τ (xs x48.toNatClampNeg) ((xs x48.toNatClampNeg).toInt) rfl (xs x50.toNatClampNeg) ((xs x50.toNatClampNeg).toInt) rfl (xs x52.toNatClampNeg) ((xs x52.toNatClampNeg).toInt) rfl hI2 hI22 hI26 hs_jOk3 hs_jN67 hs_jBl) cw_RL_49 (jc_0 cI cL ad σ τ) rfl ⟨Nat.le_of_ble_eq_true rfl, Nat.le_of_ble_eq_true rfl⟩ rfl rfl rfl hl.1 rfl (Nat.le_of_ble_eq_true rfl) dL_law_456 ⟨Nat.le_of_ble_eq_true rfl, Nat.le_of_ble_eq_true rfl⟩ (fun r55 σ54 τ54 H locs h54 hP hS => ?_)
  obtain ⟨rfl, f56, p57, p58, p59, w60, h54⟩ := h54
  refine lv_pop hx hb dL_law_459 rfl ?_
  refine lv_aload_n hx hb dL_law_460 rfl (lv_at hl 1 rfl) ?_
  refine lv_aload_n hx hb dL_law_461 rfl (lv_at hl 3 rfl) ?_
  refine lv_iload_n hx hb dL_law_462 rfl (lv_at hl 0 rfl) ?_
  refine lv_iconst (v := 1) hx hb dL_law_463 (by decide) ?_
  refine lv_iadd hx hb dL_law_464 ?_
  refine jtopr ex48.symm ?_
  refine va_sld hx hb hX hbl hbA hS (jin tx48 (by omega) (by omega)) dL_law_465 ?_
  refine lv_aload_n hx hb dL_law_466 rfl (lv_at hl 3 rfl) ?_
  refine lv_iload_n hx hb dL_law_467 rfl (lv_at hl 0 rfl) ?_
  refine lv_iconst (v := 2) hx hb dL_law_468 (by decide) ?_
  refine lv_iadd hx hb dL_law_469 ?_
  refine jtopr ex50.symm ?_
  refine va_sld hx hb hX hbl hbA hS (jin tx50 (by omega) (by omega)) dL_law_470 ?_
  refine lv_aload_n hx hb dL_law_471 rfl (lv_at hl 3 rfl) ?_
  refine lv_iload_n hx hb dL_law_472 rfl (lv_at hl 0 rfl) ?_
  refine lv_iconst (v := 3) hx hb dL_law_473 (by decide) ?_
  refine lv_iadd hx hb dL_law_474 ?_
  refine jtopr ex52.symm ?_
  refine va_sld hx hb hX hbl hbA hS (jin tx52 (by omega) (by omega)) dL_law_475 ?_
  have I62 : jI101 σ54 := jI101_fr (congrFun (f56 55 (by decide)) 4) (congrFun (f56 55 (by decide)) 5) (f56 56 (by decide)) (f56 57 (by decide)) (f56 58 (by decide)) (f56 59 (by decide)) hI101
  have I63 : jI102 σ54 := jI102_fr (congrFun (f56 55 (by decide)) 6) (f56 60 (by decide)) (f56 61 (by decide)) hI102
  have I64 : jI103 σ54 := jI103_fr (congrFun (f56 55 (by decide)) 9) hI103
  have I65 : jI104 σ54 := jI104_fr (congrFun (f56 55 (by decide)) 10) (congrFun (f56 55 (by decide)) 12) (congrFun (f56 55 (by decide)) 13) (f56 62 (by decide)) (f56 67 (by decide)) hI104
  have I66 : jI105 σ54 := jI105_fr (congrFun (f56 55 (by decide)) 15) (f56 65 (by decide)) hI105
  have I67 : jI119 σ54 := jI119_fr (f56 68 (by decide)) hI119
  have p68 : jTR σ54 := jTR.fr (f56 64 (by decide)) (f56 65 (by decide)) hs_jTR
  refine jcallV (As := [.int (xs x48.toNatClampNeg), .int (xs x50.toNatClampNeg), .int (xs x52.toNatClampNeg)]) (rest := []) ⟨hx, hb, hml, hown, hts⟩ hK hP hA hS hZ (c_X12_over l D cI cL ad zz hJ σ54 τ (xs x48.toNatClampNeg) ((xs x48.toNatClampNeg).toInt) rfl (xs x50.toNatClampNeg) ((xs x50.toNatClampNeg).toInt) rfl (xs x52.toNatClampNeg) ((xs x52.toNatClampNeg).toInt) rfl I62 I63 I64 I65 I66 I67 p68) cw_RL_52 (jc_55 cI cL ad σ54 τ) rfl ⟨Nat.le_of_ble_eq_true rfl, Nat.le_of_ble_eq_true rfl⟩ rfl rfl rfl hl.1 rfl (Nat.le_of_ble_eq_true rfl) dL_law_476 ⟨Nat.le_of_ble_eq_true rfl, Nat.le_of_ble_eq_true rfl⟩ (fun r70 σ69 τ69 H locs h69 hP hS => ?_)
  obtain ⟨rfl, f71, f72, I73, p74, w75, h69⟩ := h69
  refine lv_pop hx hb dL_law_479 rfl ?_
  refine lv_goto (tgt := 1357) hx hb dL_law_480 (by decide) ?_
  obtain ⟨x77, ex77⟩ : ∃ y : Int32, y = x0 + 6 := ⟨_, rfl⟩
  have tx77 : x77.toInt = x0.toInt + 6 := (jadd ex77 rfl jz_6 (by omega) (by omega)).trans (by omega)
  refine lv_iinc (v := x77) (lv' := [(3, .int x77), (2, .ref (ad 55)), (1, .ref (ad 0)), (0, .ref b)]) hx hb dL_law_1357 hl (k := 0) rfl (by rw [ex77]; rfl) (by decide) rfl (fun ls hl => ?_)
  refine lv_goto (tgt := 18) hx hb dL_law_1360 (by decide) ?_
  have I78 : jI2 σ69 := jI2_fr ((congrFun (f71 2 (by decide)) 0).trans (congrFun (f56 2 (by decide)) 0)) ((congrFun (f71 2 (by decide)) 1).trans (congrFun (f56 2 (by decide)) 1)) ((congrFun (f71 2 (by decide)) 2).trans (congrFun (f56 2 (by decide)) 2)) ((congrFun (f71 2 (by decide)) 3).trans (congrFun (f56 2 (by decide)) 3)) ((f71 6 (by decide)).trans (f56 6 (by decide))) hI2
  have I79 : jI9 σ69 := jI9_fr ((congrFun (f71 9 (by decide)) 0).trans (congrFun (f56 9 (by decide)) 0)) ((f71 10 (by decide)).trans (f56 10 (by decide))) ((f71 11 (by decide)).trans (f56 11 (by decide))) hI9
  have I80 : jI12 σ69 := jI12_fr ((congrFun (f71 12 (by decide)) 0).trans (congrFun (f56 12 (by decide)) 0)) ((f71 13 (by decide)).trans (f56 13 (by decide))) hI12
  have I81 : jI16 σ69 := jI16_fr ((congrFun (f71 16 (by decide)) 0).trans (congrFun (f56 16 (by decide)) 0)) ((congrFun (f71 16 (by decide)) 1).trans (congrFun (f56 16 (by decide)) 1)) ((congrFun (f71 16 (by decide)) 2).trans (congrFun (f56 16 (by decide)) 2)) ((f71 17 (by decide)).trans (f56 17 (by decide))) hI16
  have I82 : jI18 σ69 := jI18_fr ((congrFun (f71 18 (by decide)) 0).trans (congrFun (f56 18 (by decide)) 0)) ((f71 19 (by decide)).trans (f56 19 (by decide))) hI18
  have I83 : jI22 σ69 := jI22_fr ((congrFun (f71 22 (by decide)) 0).trans (congrFun (f56 22 (by decide)) 0)) ((f71 23 (by decide)).trans (f56 23 (by decide))) hI22
  have I84 : jI31 σ69 := jI31_fr ((congrFun (f71 31 (by decide)) 8).trans (congrFun (f56 31 (by decide)) 8)) ((congrFun (f71 31 (by decide)) 10).trans (congrFun (f56 31 (by decide)) 10)) ((congrFun (f71 31 (by decide)) 11).trans (congrFun (f56 31 (by decide)) 11)) ((f71 33 (by decide)).trans (f56 33 (by decide))) ((f71 35 (by decide)).trans (f56 35 (by decide))) ((f71 36 (by decide)).trans (f56 36 (by decide))) hI31
  have I85 : jI38 σ69 := jI38_fr ((congrFun (f71 38 (by decide)) 0).trans (congrFun (f56 38 (by decide)) 0)) ((congrFun (f71 38 (by decide)) 1).trans (congrFun (f56 38 (by decide)) 1)) ((f71 39 (by decide)).trans (f56 39 (by decide))) hI38
  have I86 : jI43 σ69 := jI43_fr ((congrFun (f71 43 (by decide)) 8).trans (congrFun (f56 43 (by decide)) 8)) hI43
  have I87 : jI47 σ69 := jI47_fr ((congrFun (f71 47 (by decide)) 0).trans (congrFun (f56 47 (by decide)) 0)) ((f71 48 (by decide)).trans (f56 48 (by decide))) ((f71 49 (by decide)).trans (f56 49 (by decide))) hI47
  have I88 : jI50 σ69 := jI50_fr ((f71 52 (by decide)).trans (f56 52 (by decide))) hI50
  have I89 : jI0 σ69 := jI0_fr ((f71 1 (by decide)).trans (f56 1 (by decide))) hI0
  have I90 : jI26 σ69 := jI26_fr ((congrFun (f71 26 (by decide)) 6).trans (congrFun (f56 26 (by decide)) 6)) hI26
  have I91 : jI101 σ69 := jI101_fr (f72 4 (by decide)) (f72 5 (by decide)) (f71 56 (by decide)) (f71 57 (by decide)) (f71 58 (by decide)) (f71 59 (by decide)) I62
  have I92 : jI102 σ69 := jI102_fr (f72 6 (by decide)) (f71 60 (by decide)) (f71 61 (by decide)) I63
  have I93 : jI103 σ69 := jI103_fr (f72 9 (by decide)) I64
  have I94 : jI104 σ69 := jI104_fr (f72 10 (by decide)) (f72 12 (by decide)) (f72 13 (by decide)) (f71 62 (by decide)) (f71 67 (by decide)) I65
  have I95 : jI105 σ69 := jI105_fr (f72 15 (by decide)) (f71 65 (by decide)) I66
  have I96 : jI106 σ69 := jI106_fr ((f72 32 (by decide)).trans (congrFun (f56 55 (by decide)) 32)) ((f71 70 (by decide)).trans (f56 70 (by decide))) ((f71 71 (by decide)).trans (f56 71 (by decide))) ((f71 72 (by decide)).trans (f56 72 (by decide))) hI106
  have I97 : jI107 σ69 := jI107_fr ((f72 12 (by decide)).trans (congrFun (f56 55 (by decide)) 12)) ((f72 47 (by decide)).trans (congrFun (f56 55 (by decide)) 47)) ((f71 80 (by decide)).trans (f56 80 (by decide))) hI107
  have I98 : jI109 σ69 := jI109_fr ((f72 50 (by decide)).trans (congrFun (f56 55 (by decide)) 50)) hI109
  have I99 : jI110 σ69 := jI110_fr ((f71 86 (by decide)).trans (f56 86 (by decide))) ((f71 87 (by decide)).trans (f56 87 (by decide))) hI110
  have I100 : jI111 σ69 := jI111_fr ((f71 79 (by decide)).trans (f56 79 (by decide))) hI111
  have p101 : jKept σ69 := jKept.fr ((f71 75 (by decide)).trans (f56 75 (by decide))) ((f71 76 (by decide)).trans (f56 76 (by decide))) ((f71 77 (by decide)).trans (f56 77 (by decide))) hs_jKept
  have p102 : jBook σ69 := jBook.fr ((f72 47 (by decide)).trans (congrFun (f56 55 (by decide)) 47)) ((f72 10 (by decide)).trans (congrFun (f56 55 (by decide)) 10)) ((f71 81 (by decide)).trans (f56 81 (by decide))) hs_jBook
  have p103 : jNd12 σ69 := jNd12.fr ((congrFun (f71 12 (by decide)) 0).trans (congrFun (f56 12 (by decide)) 0)) ((congrFun (f71 12 (by decide)) 1).trans (congrFun (f56 12 (by decide)) 1)) ((f71 13 (by decide)).trans (f56 13 (by decide))) hs_jNd12
  have p104 : jN67 σ69 := jN67.fr (f71 24 (by decide)) p58
  have p105 : jBl σ69 := jBl.fr (congrFun (f71 22 (by decide)) 0) (congrFun (f71 22 (by decide)) 1) (f71 23 (by decide)) (congrFun (f71 26 (by decide)) 6) (congrFun (f71 26 (by decide)) 7) (f71 29 (by decide)) (f71 30 (by decide)) p59
  have p106 : jKb σ69 := jKb.fr ((congrFun (f71 31 (by decide)) 8).trans (congrFun (f56 31 (by decide)) 8)) ((congrFun (f71 31 (by decide)) 11).trans (congrFun (f56 31 (by decide)) 11)) ((f71 32 (by decide)).trans (f56 32 (by decide))) hs_jKb
  have p107 : jKh σ69 := jKh.fr ((congrFun (f71 31 (by decide)) 8).trans (congrFun (f56 31 (by decide)) 8)) ((f71 32 (by decide)).trans (f56 32 (by decide))) ((f71 36 (by decide)).trans (f56 36 (by decide))) ((f71 37 (by decide)).trans (f56 37 (by decide))) hs_jKh
  have p108 : jKg σ69 := jKg.fr ((congrFun (f71 31 (by decide)) 8).trans (congrFun (f56 31 (by decide)) 8)) ((congrFun (f71 31 (by decide)) 9).trans (congrFun (f56 31 (by decide)) 9)) ((congrFun (f71 31 (by decide)) 11).trans (congrFun (f56 31 (by decide)) 11)) ((congrFun (f71 31 (by decide)) 12).trans (congrFun (f56 31 (by decide)) 12)) ((f71 32 (by decide)).trans (f56 32 (by decide))) ((f71 33 (by decide)).trans (f56 33 (by decide))) hs_jKg
  have z109 : (σ69 2 0).toInt = (σ 2 0).toInt := (congrArg Int32.toInt (show σ69 2 0 = (σ 2 0) from ((congrFun (f71 2 (by decide)) 0).trans (congrFun (f56 2 (by decide)) 0))))
  have z110 : (σ69 55 6).toInt = (σ 55 6).toInt := (congrArg Int32.toInt (show σ69 55 6 = (σ 55 6) from ((f72 6 (by decide)).trans (congrFun (f56 55 (by decide)) 6))))
  have z111 : (σ69 2 2).toInt = (σ 2 2).toInt := (congrArg Int32.toInt (show σ69 2 2 = (σ 2 2) from ((congrFun (f71 2 (by decide)) 2).trans (congrFun (f56 2 (by decide)) 2))))
  have z112 : (σ69 55 5).toInt = (σ 55 5).toInt := (congrArg Int32.toInt (show σ69 55 5 = (σ 55 5) from ((f72 5 (by decide)).trans (congrFun (f56 55 (by decide)) 5))))
  have z113 : (σ69 2 3).toInt = (σ 2 3).toInt := (congrArg Int32.toInt (show σ69 2 3 = (σ 2 3) from ((congrFun (f71 2 (by decide)) 3).trans (congrFun (f56 2 (by decide)) 3))))
  have z114 : (σ69 55 4).toInt = (σ 55 4).toInt := (congrArg Int32.toInt (show σ69 55 4 = (σ 55 4) from ((f72 4 (by decide)).trans (congrFun (f56 55 (by decide)) 4))))
  have z115 : (σ69 9 0).toInt = (σ 9 0).toInt := (congrArg Int32.toInt (show σ69 9 0 = (σ 9 0) from ((congrFun (f71 9 (by decide)) 0).trans (congrFun (f56 9 (by decide)) 0))))
  have z116 : (σ69 55 15).toInt = (σ 55 15).toInt := (congrArg Int32.toInt (show σ69 55 15 = (σ 55 15) from ((f72 15 (by decide)).trans (congrFun (f56 55 (by decide)) 15))))
  have z117 : (σ69 16 0).toInt = (σ 16 0).toInt := (congrArg Int32.toInt (show σ69 16 0 = (σ 16 0) from ((congrFun (f71 16 (by decide)) 0).trans (congrFun (f56 16 (by decide)) 0))))
  have z118 : (σ69 55 10).toInt = (σ 55 10).toInt := (congrArg Int32.toInt (show σ69 55 10 = (σ 55 10) from ((f72 10 (by decide)).trans (congrFun (f56 55 (by decide)) 10))))
  have z119 : (σ69 16 1).toInt = (σ 16 1).toInt := (congrArg Int32.toInt (show σ69 16 1 = (σ 16 1) from ((congrFun (f71 16 (by decide)) 1).trans (congrFun (f56 16 (by decide)) 1))))
  have z120 : (σ69 55 12).toInt = (σ 55 12).toInt := (congrArg Int32.toInt (show σ69 55 12 = (σ 55 12) from ((f72 12 (by decide)).trans (congrFun (f56 55 (by decide)) 12))))
  have z121 : (σ69 16 2).toInt = (σ 16 2).toInt := (congrArg Int32.toInt (show σ69 16 2 = (σ 16 2) from ((congrFun (f71 16 (by decide)) 2).trans (congrFun (f56 16 (by decide)) 2))))
  have z122 : (σ69 55 13).toInt = (σ 55 13).toInt := (congrArg Int32.toInt (show σ69 55 13 = (σ 55 13) from ((f72 13 (by decide)).trans (congrFun (f56 55 (by decide)) 13))))
  have z123 : (σ69 38 0).toInt = (σ 38 0).toInt := (congrArg Int32.toInt (show σ69 38 0 = (σ 38 0) from ((congrFun (f71 38 (by decide)) 0).trans (congrFun (f56 38 (by decide)) 0))))
  have z124 : (σ69 55 32).toInt = (σ 55 32).toInt := (congrArg Int32.toInt (show σ69 55 32 = (σ 55 32) from ((f72 32 (by decide)).trans (congrFun (f56 55 (by decide)) 32))))
  have z125 : (σ69 38 1).toInt = (σ 38 1).toInt := (congrArg Int32.toInt (show σ69 38 1 = (σ 38 1) from ((congrFun (f71 38 (by decide)) 1).trans (congrFun (f56 38 (by decide)) 1))))
  have z126 : (σ69 55 55).toInt = (σ 55 55).toInt := (congrArg Int32.toInt (show σ69 55 55 = (σ 55 55) from ((f72 55 (by decide)).trans (congrFun (f56 55 (by decide)) 55))))
  have z127 : (σ69 47 0).toInt = (σ 47 0).toInt := (congrArg Int32.toInt (show σ69 47 0 = (σ 47 0) from ((congrFun (f71 47 (by decide)) 0).trans (congrFun (f56 47 (by decide)) 0))))
  have z128 : (σ69 55 47).toInt = (σ 55 47).toInt := (congrArg Int32.toInt (show σ69 55 47 = (σ 55 47) from ((f72 47 (by decide)).trans (congrFun (f56 55 (by decide)) 47))))
  have z129 : (σ69 55 30).toInt = (σ 55 30).toInt := (congrArg Int32.toInt (show σ69 55 30 = (σ 55 30) from ((f72 30 (by decide)).trans (congrFun (f56 55 (by decide)) 30))))
  have z130 : (σ69 55 31).toInt = (σ 55 31).toInt := (congrArg Int32.toInt (show σ69 55 31 = (σ 55 31) from ((f72 31 (by decide)).trans (congrFun (f56 55 (by decide)) 31))))
  have z131 : (σ69 2 1).toInt = (σ 2 1).toInt := (congrArg Int32.toInt (show σ69 2 1 = (σ 2 1) from ((congrFun (f71 2 (by decide)) 1).trans (congrFun (f56 2 (by decide)) 1))))
  have z132 : (σ69 55 9).toInt = (σ 55 9).toInt := (congrArg Int32.toInt (show σ69 55 9 = (σ 55 9) from ((f72 9 (by decide)).trans (congrFun (f56 55 (by decide)) 9))))
  have z133 : (σ69 26 6).toInt = (σ 26 6).toInt := (congrArg Int32.toInt (show σ69 26 6 = (σ 26 6) from ((congrFun (f71 26 (by decide)) 6).trans (congrFun (f56 26 (by decide)) 6))))
  have z135 : (σ69 18 0).toInt = (σ 18 0).toInt := (congrArg Int32.toInt (show σ69 18 0 = (σ 18 0) from ((congrFun (f71 18 (by decide)) 0).trans (congrFun (f56 18 (by decide)) 0))))
  have z136 : (σ69 22 0).toInt = (σ 22 0).toInt := (congrArg Int32.toInt (show σ69 22 0 = (σ 22 0) from ((congrFun (f71 22 (by decide)) 0).trans (congrFun (f56 22 (by decide)) 0))))
  exact ih x77 σ69 τ _ _ ls (by have h9 := tx77; omega) ⟨I78, I79, I80, I81, I82, I83, I84, I85, I86, I87, I88, I89, I90, I91, I92, I93, I94, I95, I96, I97, I98, I99, I100, I73, p101, p102, p103, p104, p105, p106, p74, p107, p108, (by omega), (by omega), (by omega), (by omega), (by omega), (by omega), (by omega), (by omega), (by omega), (by omega), (by omega), (by omega), (by omega), (by have h9 := tx77; omega), (show jNumP (σ69 3) (σ69 56) (σ69 6) (σ69 57) (σ69 7) (σ69 58) (σ69 8) (σ69 59) (σ69 55 6).toInt (σ69 55 4).toInt by rw [show σ69 3 = σ 3 from ((f71 3 (by decide)).trans (f56 3 (by decide))), show σ69 56 = σ 56 from ((f71 56 (by decide)).trans (f56 56 (by decide))), show σ69 6 = σ 6 from ((f71 6 (by decide)).trans (f56 6 (by decide))), show σ69 57 = σ 57 from ((f71 57 (by decide)).trans (f56 57 (by decide))), show σ69 7 = σ 7 from ((f71 7 (by decide)).trans (f56 7 (by decide))), show σ69 58 = σ 58 from ((f71 58 (by decide)).trans (f56 58 (by decide))), show σ69 8 = σ 8 from ((f71 8 (by decide)).trans (f56 8 (by decide))), show σ69 59 = σ 59 from ((f71 59 (by decide)).trans (f56 59 (by decide))), show (σ69 55 6).toInt = (σ 55 6).toInt from by omega, show (σ69 55 4).toInt = (σ 55 4).toInt from by omega]; exact hr0), (show jOvP (σ69 56) (σ69 57) (σ69 58) (σ69 59) (σ69 55 4).toInt by rw [show σ69 56 = σ 56 from ((f71 56 (by decide)).trans (f56 56 (by decide))), show σ69 57 = σ 57 from ((f71 57 (by decide)).trans (f56 57 (by decide))), show σ69 58 = σ 58 from ((f71 58 (by decide)).trans (f56 58 (by decide))), show σ69 59 = σ 59 from ((f71 59 (by decide)).trans (f56 59 (by decide))), show (σ69 55 4).toInt = (σ 55 4).toInt from by omega]; exact hr1), (show jTp (σ69 10) (σ69 63) (σ69 55 15).toInt by rw [show σ69 10 = σ 10 from ((f71 10 (by decide)).trans (f56 10 (by decide))), show σ69 63 = σ 63 from ((f71 63 (by decide)).trans (f56 63 (by decide)))]; exact hr2.le (by omega)), (show jSo (σ69 17) (σ69 62) (σ69 16 0).toInt by rw [show σ69 17 = σ 17 from ((f71 17 (by decide)).trans (f56 17 (by decide))), show σ69 62 = σ 62 from ((f71 62 (by decide)).trans (f56 62 (by decide))), show (σ69 16 0).toInt = (σ 16 0).toInt from by omega]; exact hr3), (show jShP (σ69 51) (σ69 52) (σ69 53) (σ69 86) (σ69 87) (σ69 55 32).toInt by rw [show σ69 51 = σ 51 from ((f71 51 (by decide)).trans (f56 51 (by decide))), show σ69 52 = σ 52 from ((f71 52 (by decide)).trans (f56 52 (by decide))), show σ69 53 = σ 53 from ((f71 53 (by decide)).trans (f56 53 (by decide))), show σ69 86 = σ 86 from ((f71 86 (by decide)).trans (f56 86 (by decide))), show σ69 87 = σ 87 from ((f71 87 (by decide)).trans (f56 87 (by decide)))]; exact (hr4.up (by omega) (by omega))), (show jEl (σ69 51) (σ69 52) (τ 54) (τ 88) by rw [show σ69 51 = σ 51 from ((f71 51 (by decide)).trans (f56 51 (by decide))), show σ69 52 = σ 52 from ((f71 52 (by decide)).trans (f56 52 (by decide)))]; exact hr5), (show jByP (σ69 51) (σ69 52) (τ 54) by rw [show σ69 51 = σ 51 from ((f71 51 (by decide)).trans (f56 51 (by decide))), show σ69 52 = σ 52 from ((f71 52 (by decide)).trans (f56 52 (by decide)))]; exact hr6), (show jBk (σ69 48) (σ69 80) (σ69 49) (σ69 81) (σ69 55 47).toInt by rw [show σ69 48 = σ 48 from ((f71 48 (by decide)).trans (f56 48 (by decide))), show σ69 49 = σ 49 from ((f71 49 (by decide)).trans (f56 49 (by decide))), show σ69 80 = σ 80 from ((f71 80 (by decide)).trans (f56 80 (by decide))), show σ69 81 = σ 81 from ((f71 81 (by decide)).trans (f56 81 (by decide))), show (σ69 55 47).toInt = (σ 55 47).toInt from by omega]; exact hr7), (show jKd (σ69 39) (σ69 70) (σ69 55 32).toInt by rw [show σ69 39 = σ 39 from ((f71 39 (by decide)).trans (f56 39 (by decide))), show σ69 70 = σ 70 from ((f71 70 (by decide)).trans (f56 70 (by decide))), show (σ69 55 32).toInt = (σ 55 32).toInt from by omega]; exact hr8), (show jTt (σ69 42) (σ69 85) (σ69 55 55).toInt by rw [show σ69 42 = σ 42 from ((f71 42 (by decide)).trans (f56 42 (by decide))), show σ69 85 = σ 85 from ((f71 85 (by decide)).trans (f56 85 (by decide))), show (σ69 55 55).toInt = (σ 55 55).toInt from by omega]; exact hr9), (fun k hk => by rw [show σ69 4 = σ 4 from ((f71 4 (by decide)).trans (f56 4 (by decide))), show σ69 5 = σ 5 from ((f71 5 (by decide)).trans (f56 5 (by decide))), show σ69 60 = σ 60 from ((f71 60 (by decide)).trans (f56 60 (by decide))), show σ69 61 = σ 61 from ((f71 61 (by decide)).trans (f56 61 (by decide)))]; exact hr10 k (by omega)), (fun nm => by rw [show σ69 19 = σ 19 from ((f71 19 (by decide)).trans (f56 19 (by decide))), show σ69 64 = σ 64 from ((f71 64 (by decide)).trans (f56 64 (by decide))), show σ69 65 = σ 65 from ((f71 65 (by decide)).trans (f56 65 (by decide))), show (σ69 18 0).toInt = (σ 18 0).toInt from by omega]; exact hr11 nm), (fun nm => by rw [show σ69 23 = σ 23 from ((f71 23 (by decide)).trans (f56 23 (by decide))), show σ69 64 = σ 64 from ((f71 64 (by decide)).trans (f56 64 (by decide))), show σ69 65 = σ 65 from ((f71 65 (by decide)).trans (f56 65 (by decide))), show (σ69 22 0).toInt = (σ 22 0).toInt from by omega]; exact hr12 nm)⟩ hP hS (lv_sub hl [0, 1, 2, 3] rfl)
set_option maxHeartbeats 4000000 in
set_option maxRecDepth 100000 in
theorem law_case_9 {p : Program} {e : Env} {s : State} {m : MethodId} {below : List Frame} {meth : Method} {c : Code} (l : Launch) {b L : Nat} {xs : Nat → Int32} {D : va_G} {cI cL : ClassId} {ad zz : Nat → Nat} (C0 : lw_At p s m meth c b L xs) (hJ : jD ad) (hA : ∀ q, jA ad q → s.heap.size ≤ q) (hK : jK D cI cL s) (hZ : jZ zz (fun q : Nat => s.heap.size ≤ q) s s.heap) {x0 : Int32} (hx0 : 0 ≤ x0.toInt) (hxL : x0.toInt + 6 ≤ (L : Int)) (hL : L ≤ 384) {σ : Nat → Nat → Int32} {τ : Nat → Nat → Int64} {H : Heap} {locs : List Loc} (hS : va_S (fun q : Nat => s.heap.size ≤ q) s.heap H locs) {ls : Array Slot} (hAll : jAll x0.toInt σ τ) (hP : jH D cI cL ad σ τ H) (hl : lv_has ls 4 [(3, .int x0), (2, .ref (ad 55)), (1, .ref (ad 0)), (0, .ref b)]) (ih : ∀ (x1 : Int32) (σ : Nat → Nat → Int32) (τ : Nat → Nat → Int64) (H : Heap) (locs : List Loc) (ls : Array Slot), x1.toInt = x0.toInt + 6 → jAll x1.toInt σ τ → jH D cI cL ad σ τ H → va_S (fun q : Nat => s.heap.size ≤ q) s.heap H locs → lv_has ls 4 [(3, .int x1), (2, .ref (ad 55)), (1, .ref (ad 0)), (0, .ref b)] → W p l e room_1 s m #[Value.ref b] below meth c H locs 90 348600 (lw_Z below #[Value.ref b] s) (F0 m 18 ls [])) : W p l e room_1 s m #[Value.ref b] below meth c H locs 90 348600 (lw_Z below #[Value.ref b] s) (F0 m 483 ls []) := by
  obtain ⟨hx, hb, hr, hml, hown, hts0, hX, hbl, hlocks, hgv⟩ := C0
  have hts : ∀ w ∈ wsL_law, w.before #[Value.ref b] s = true := fun w h => hts0 w (wsL_law_in w h)
  have hbA : ¬ (fun q : Nat => s.heap.size ≤ q) b := Nat.not_le.mpr hbl
  have hown : s.vm.findClass RL = some m.cls := hown
  obtain ⟨hI2, hI9, hI12, hI16, hI18, hI22, hI31, hI38, hI43, hI47, hI50, hI0, hI26, hI101, hI102, hI103, hI104, hI105, hI106, hI107, hI109, hI110, hI111, hI119, hs_jKept, hs_jBook, hs_jNd12, hs_jN67, hs_jBl, hs_jKb, hs_jTR, hs_jKh, hs_jKg, ht0, ht1, ht2, ht3, ht4, ht5, ht6, ht7, ht8, ht9, ht10, ht11, ht12, ht13, hr0, hr1, hr2, hr3, hr4, hr5, hr6, hr7, hr8, hr9, hr10, hr11, hr12⟩ := hAll
  have hL9 : (L : Int) ≤ 384 := by omega
  obtain ⟨i1, i2, i3, i4, i5, w6⟩ : (0 ≤ (σ 2 0).toInt ∧ (σ 2 0).toInt ≤ 4) ∧ (0 ≤ (σ 2 1).toInt ∧ (σ 2 1).toInt ≤ 3) ∧ (0 ≤ (σ 2 2).toInt) ∧ (0 ≤ (σ 2 3).toInt) ∧ ((σ 2 2).toInt + (σ 2 3).toInt ≤ 40) ∧ (∀ k : Nat, k < 40 → 0 ≤ (σ 6 k).toInt ∧ (σ 6 k).toInt ≤ 67) := id hI2
  obtain ⟨i7, w8, w9⟩ : (0 ≤ (σ 9 0).toInt ∧ (σ 9 0).toInt ≤ 80) ∧ (∀ k : Nat, k < 80 → 0 ≤ (σ 10 k).toInt ∧ (σ 10 k).toInt ≤ 255) ∧ (∀ k : Nat, k < 8 → 0 ≤ (σ 11 k).toInt ∧ (σ 11 k).toInt ≤ 3) := id hI9
  obtain ⟨i10, i11, i12, w13⟩ : (1 ≤ (σ 16 0).toInt ∧ (σ 16 0).toInt ≤ 8) ∧ (1 ≤ (σ 16 1).toInt ∧ (σ 16 1).toInt ≤ 12) ∧ (0 ≤ (σ 16 2).toInt ∧ (σ 16 2).toInt ≤ 999) ∧ (∀ k : Nat, k < 8 → 0 ≤ (σ 17 k).toInt ∧ (σ 17 k).toInt ≤ 3) := id hI16
  obtain ⟨i14, i15, w16⟩ : (0 ≤ (σ 38 0).toInt ∧ (σ 38 0).toInt ≤ 20) ∧ (0 ≤ (σ 38 1).toInt ∧ (σ 38 1).toInt ≤ 1000) ∧ (∀ k : Nat, k < 20 → 0 ≤ (σ 39 k).toInt ∧ (σ 39 k).toInt ≤ 6) := id hI38
  obtain ⟨i17, w18, w19⟩ : (0 ≤ (σ 47 0).toInt ∧ (σ 47 0).toInt ≤ 12) ∧ (∀ k : Nat, k < 12 → 0 ≤ (σ 48 k).toInt ∧ (σ 48 k).toInt ≤ 3) ∧ (∀ k : Nat, k < 12 → 0 ≤ (σ 49 k).toInt ∧ (σ 49 k).toInt ≤ 1) := id hI47
  have w20 : ∀ k : Nat, k < 6 → 0 ≤ (σ 52 k).toInt ∧ (σ 52 k).toInt ≤ 60 := hI50
  have i21 : 1 ≤ (σ 26 6).toInt ∧ (σ 26 6).toInt ≤ 8000 := hI26
  obtain ⟨i22, i23, i24, w25, w26, w27, w28⟩ : (0 ≤ (σ 55 5).toInt) ∧ ((σ 55 5).toInt ≤ (σ 55 4).toInt) ∧ ((σ 55 4).toInt ≤ 40) ∧ (∀ k : Nat, k < 68 → (-200) ≤ (σ 56 k).toInt ∧ (σ 56 k).toInt ≤ 500) ∧ (∀ k : Nat, k < 40 → 0 ≤ (σ 57 k).toInt ∧ (σ 57 k).toInt ≤ 67) ∧ (∀ k : Nat, k < 40 → (-200) ≤ (σ 58 k).toInt ∧ (σ 58 k).toInt ≤ 500) ∧ (∀ k : Nat, k < 40 → (-200) ≤ (σ 59 k).toInt ∧ (σ 59 k).toInt ≤ 500) := id hI101
  obtain ⟨i29, w30, w31⟩ : (0 ≤ (σ 55 6).toInt ∧ (σ 55 6).toInt ≤ 4) ∧ (∀ k : Nat, k < 4 → 0 ≤ (σ 60 k).toInt ∧ (σ 60 k).toInt ≤ 50) ∧ (∀ k : Nat, k < 4 → 0 ≤ (σ 61 k).toInt ∧ (σ 61 k).toInt ≤ 20) := id hI102
  have i32 : 0 ≤ (σ 55 9).toInt ∧ (σ 55 9).toInt ≤ 3 := hI103
  obtain ⟨i33, i34, i35, w36, w37⟩ : (1 ≤ (σ 55 10).toInt ∧ (σ 55 10).toInt ≤ 8) ∧ (1 ≤ (σ 55 12).toInt ∧ (σ 55 12).toInt ≤ 12) ∧ (0 ≤ (σ 55 13).toInt ∧ (σ 55 13).toInt ≤ 999) ∧ (∀ k : Nat, k < 8 → 0 ≤ (σ 62 k).toInt ∧ (σ 62 k).toInt ≤ 3) ∧ (∀ k : Nat, k < 8 → 0 ≤ (σ 67 k).toInt ∧ (σ 67 k).toInt ≤ 3) := id hI104
  obtain ⟨i38, w39⟩ : (0 ≤ (σ 55 15).toInt ∧ (σ 55 15).toInt ≤ 80) ∧ (∀ k : Nat, k < 2 → (-1) ≤ (σ 65 k).toInt ∧ (σ 65 k).toInt ≤ 80) := id hI105
  obtain ⟨i40, w41, w42, w43⟩ : (0 ≤ (σ 55 32).toInt ∧ (σ 55 32).toInt ≤ 20) ∧ (∀ k : Nat, k < 20 → 0 ≤ (σ 70 k).toInt ∧ (σ 70 k).toInt ≤ 6) ∧ (∀ k : Nat, k < 20 → 0 ≤ (σ 71 k).toInt ∧ (σ 71 k).toInt ≤ 8) ∧ (∀ k : Nat, k < 160 → 0 ≤ (σ 72 k).toInt ∧ (σ 72 k).toInt ≤ 3) := id hI106
  obtain ⟨i44, i45, w46⟩ : (0 ≤ (σ 55 47).toInt ∧ (σ 55 47).toInt ≤ 12) ∧ ((σ 55 47).toInt ≤ (σ 55 12).toInt) ∧ (∀ k : Nat, k < 12 → 0 ≤ (σ 80 k).toInt ∧ (σ 80 k).toInt ≤ 3) := id hI107
  have hs_jOk3 : jOk3 σ := hr0.ok hr1.1
  refine lv_aload_n hx hb dL_law_483 rfl (lv_at hl 2 rfl) ?_
  refine lv_aload_n hx hb dL_law_484 rfl (lv_at hl 3 rfl) ?_
  refine lv_iload_n hx hb dL_law_485 rfl (lv_at hl 0 rfl) ?_
  refine lv_iconst (v := 1) hx hb dL_law_486 (by decide) ?_
  have g47 := jrg (rfl : x0.toInt = x0.toInt)
  refine lv_iadd hx hb dL_law_487 ?_
  refine lv_topi (fun x48 ex48 => ?_)
  have tx48 : x48.toInt = x0.toInt + 1 := (jadd ex48 rfl jz_1 (by omega) (by omega)).trans (by omega)
  refine va_sld hx hb hX hbl hbA hS (jin tx48 (by omega) (by omega)) dL_law_488 ?_
  have g49 := jrg (rfl : (xs x48.toNatClampNeg).toInt = (xs x48.toNatClampNeg).toInt)
  refine lv_aload_n hx hb dL_law_489 rfl (lv_at hl 3 rfl) ?_
  refine lv_iload_n hx hb dL_law_490 rfl (lv_at hl 0 rfl) ?_
  refine lv_iconst (v := 2) hx hb dL_law_491 (by decide) ?_
  refine lv_iadd hx hb dL_law_492 ?_
  refine lv_topi (fun x50 ex50 => ?_)
  have tx50 : x50.toInt = x0.toInt + 2 := (jadd ex50 rfl jz_2 (by omega) (by omega)).trans (by omega)
  refine va_sld hx hb hX hbl hbA hS (jin tx50 (by omega) (by omega)) dL_law_493 ?_
  have g51 := jrg (rfl : (xs x50.toNatClampNeg).toInt = (xs x50.toNatClampNeg).toInt)
  refine lv_aload_n hx hb dL_law_494 rfl (lv_at hl 3 rfl) ?_
  refine lv_iload_n hx hb dL_law_495 rfl (lv_at hl 0 rfl) ?_
  refine lv_iconst (v := 3) hx hb dL_law_496 (by decide) ?_
  refine lv_iadd hx hb dL_law_497 ?_
  refine lv_topi (fun x52 ex52 => ?_)
  have tx52 : x52.toInt = x0.toInt + 3 := (jadd ex52 rfl jz_3 (by omega) (by omega)).trans (by omega)
  refine va_sld hx hb hX hbl hbA hS (jin tx52 (by omega) (by omega)) dL_law_498 ?_
  have g53 := jrg (rfl : (xs x52.toNatClampNeg).toInt = (xs x52.toNatClampNeg).toInt)
  refine jcallV (As := [.int (xs x48.toNatClampNeg), .int (xs x50.toNatClampNeg), .int (xs x52.toNatClampNeg)]) (rest := []) ⟨hx, hb, hml, hown, hts⟩ hK hP hA hS hZ (c_X11_rule l D cI cL ad zz hJ σ τ (xs x48.toNatClampNeg) ((xs x48.toNatClampNeg).toInt) rfl (xs x50.toNatClampNeg) ((xs x50.toNatClampNeg).toInt) rfl (xs x52.toNatClampNeg) ((xs x52.toNatClampNeg).toInt) rfl hI38) cw_RL_53 (jc_0 cI cL ad σ τ) rfl ⟨Nat.le_of_ble_eq_true rfl, Nat.le_of_ble_eq_true rfl⟩ rfl rfl rfl hl.1 rfl (Nat.le_of_ble_eq_true rfl) dL_law_499 ⟨Nat.le_of_ble_eq_true rfl, Nat.le_of_ble_eq_true rfl⟩ (fun r55 σ54 τ54 H locs h54 hP hS => ?_)
  obtain ⟨rfl, f56, f57, I58, h54⟩ := h54
  obtain ⟨i60, i61, w62⟩ : (0 ≤ (σ54 38 0).toInt ∧ (σ54 38 0).toInt ≤ 20) ∧ (0 ≤ (σ54 38 1).toInt ∧ (σ54 38 1).toInt ≤ 1000) ∧ (∀ k : Nat, k < 20 → 0 ≤ (σ54 39 k).toInt ∧ (σ54 39 k).toInt ≤ 6) := id I58
  have z63 : (σ54 38 1).toInt = (σ 38 1).toInt := (congrArg Int32.toInt (show σ54 38 1 = (σ 38 1) from (f57 1 (by decide))))
  rcases h54 with h64 | h65 | h66
  · obtain ⟨q70, k67, k68, k69⟩ := h64
    have q70 := q70.symm
    subst q70
    refine lv_pop hx hb dL_law_502 rfl ?_
    refine lv_aload_n hx hb dL_law_503 rfl (lv_at hl 1 rfl) ?_
    refine lv_aload_n hx hb dL_law_504 rfl (lv_at hl 3 rfl) ?_
    refine lv_iload_n hx hb dL_law_505 rfl (lv_at hl 0 rfl) ?_
    refine lv_iconst (v := 1) hx hb dL_law_506 (by decide) ?_
    refine lv_iadd hx hb dL_law_507 ?_
    refine jtopr ex48.symm ?_
    refine va_sld hx hb hX hbl hbA hS (jin tx48 (by omega) (by omega)) dL_law_508 ?_
    refine lv_aload_n hx hb dL_law_509 rfl (lv_at hl 3 rfl) ?_
    refine lv_iload_n hx hb dL_law_510 rfl (lv_at hl 0 rfl) ?_
    refine lv_iconst (v := 2) hx hb dL_law_511 (by decide) ?_
    refine lv_iadd hx hb dL_law_512 ?_
    refine jtopr ex50.symm ?_
    refine va_sld hx hb hX hbl hbA hS (jin tx50 (by omega) (by omega)) dL_law_513 ?_
    refine lv_aload_n hx hb dL_law_514 rfl (lv_at hl 3 rfl) ?_
    refine lv_iload_n hx hb dL_law_515 rfl (lv_at hl 0 rfl) ?_
    refine lv_iconst (v := 3) hx hb dL_law_516 (by decide) ?_
    refine lv_iadd hx hb dL_law_517 ?_
    refine jtopr ex52.symm ?_
    refine va_sld hx hb hX hbl hbA hS (jin tx52 (by omega) (by omega)) dL_law_518 ?_
    have I71 : jI106 σ54 := jI106_fr (congrFun (f56 55 (by decide)) 32) (f56 70 (by decide)) (f56 71 (by decide)) (f56 72 (by decide)) hI106
    have z72 : (σ54 55 32).toInt = (σ 55 32).toInt := (congrArg Int32.toInt (show σ54 55 32 = (σ 55 32) from (congrFun (f56 55 (by decide)) 32)))
    refine jcallV (As := [.int (xs x48.toNatClampNeg), .int (xs x50.toNatClampNeg), .int (xs x52.toNatClampNeg)]) (rest := []) ⟨hx, hb, hml, hown, hts⟩ hK hP hA hS hZ (c_X12_rule l D cI cL ad zz hJ σ54 τ (xs x48.toNatClampNeg) ((xs x48.toNatClampNeg).toInt) rfl (xs x50.toNatClampNeg) ((xs x50.toNatClampNeg).toInt) rfl (xs x52.toNatClampNeg) ((xs x52.toNatClampNeg).toInt) rfl I71) cw_RL_56 (jc_55 cI cL ad σ54 τ) rfl ⟨Nat.le_of_ble_eq_true rfl, Nat.le_of_ble_eq_true rfl⟩ rfl rfl rfl hl.1 rfl (Nat.le_of_ble_eq_true rfl) dL_law_519 ⟨Nat.le_of_ble_eq_true rfl, Nat.le_of_ble_eq_true rfl⟩ (fun r74 σ73 τ73 H locs h73 hP hS => ?_)
    obtain ⟨rfl, f75, f76, I77, h73⟩ := h73
    obtain ⟨i79, w80, w81, w82⟩ : (0 ≤ (σ73 55 32).toInt ∧ (σ73 55 32).toInt ≤ 20) ∧ (∀ k : Nat, k < 20 → 0 ≤ (σ73 70 k).toInt ∧ (σ73 70 k).toInt ≤ 6) ∧ (∀ k : Nat, k < 20 → 0 ≤ (σ73 71 k).toInt ∧ (σ73 71 k).toInt ≤ 8) ∧ (∀ k : Nat, k < 160 → 0 ≤ (σ73 72 k).toInt ∧ (σ73 72 k).toInt ≤ 3) := id I77
    rcases h73 with h83 | h84 | h85
    · obtain ⟨q89, k86, k87, k88⟩ := h83
      have q89 := q89.symm
      subst q89
      refine lv_pop hx hb dL_law_522 rfl ?_
      refine lv_goto (tgt := 1357) hx hb dL_law_523 (by decide) ?_
      obtain ⟨x90, ex90⟩ : ∃ y : Int32, y = x0 + 6 := ⟨_, rfl⟩
      have tx90 : x90.toInt = x0.toInt + 6 := (jadd ex90 rfl jz_6 (by omega) (by omega)).trans (by omega)
      refine lv_iinc (v := x90) (lv' := [(3, .int x90), (2, .ref (ad 55)), (1, .ref (ad 0)), (0, .ref b)]) hx hb dL_law_1357 hl (k := 0) rfl (by rw [ex90]; rfl) (by decide) rfl (fun ls hl => ?_)
      refine lv_goto (tgt := 18) hx hb dL_law_1360 (by decide) ?_
      have I91 : jI2 σ73 := jI2_fr ((congrFun (f75 2 (by decide)) 0).trans (congrFun (f56 2 (by decide)) 0)) ((congrFun (f75 2 (by decide)) 1).trans (congrFun (f56 2 (by decide)) 1)) ((congrFun (f75 2 (by decide)) 2).trans (congrFun (f56 2 (by decide)) 2)) ((congrFun (f75 2 (by decide)) 3).trans (congrFun (f56 2 (by decide)) 3)) ((f75 6 (by decide)).trans (f56 6 (by decide))) hI2
      have I92 : jI9 σ73 := jI9_fr ((congrFun (f75 9 (by decide)) 0).trans (congrFun (f56 9 (by decide)) 0)) ((f75 10 (by decide)).trans (f56 10 (by decide))) ((f75 11 (by decide)).trans (f56 11 (by decide))) hI9
      have I93 : jI12 σ73 := jI12_fr ((congrFun (f75 12 (by decide)) 0).trans (congrFun (f56 12 (by decide)) 0)) ((f75 13 (by decide)).trans (f56 13 (by decide))) hI12
      have I94 : jI16 σ73 := jI16_fr ((congrFun (f75 16 (by decide)) 0).trans (congrFun (f56 16 (by decide)) 0)) ((congrFun (f75 16 (by decide)) 1).trans (congrFun (f56 16 (by decide)) 1)) ((congrFun (f75 16 (by decide)) 2).trans (congrFun (f56 16 (by decide)) 2)) ((f75 17 (by decide)).trans (f56 17 (by decide))) hI16
      have I95 : jI18 σ73 := jI18_fr ((congrFun (f75 18 (by decide)) 0).trans (congrFun (f56 18 (by decide)) 0)) ((f75 19 (by decide)).trans (f56 19 (by decide))) hI18
      have I96 : jI22 σ73 := jI22_fr ((congrFun (f75 22 (by decide)) 0).trans (congrFun (f56 22 (by decide)) 0)) ((f75 23 (by decide)).trans (f56 23 (by decide))) hI22
      have I97 : jI31 σ73 := jI31_fr ((congrFun (f75 31 (by decide)) 8).trans (congrFun (f56 31 (by decide)) 8)) ((congrFun (f75 31 (by decide)) 10).trans (congrFun (f56 31 (by decide)) 10)) ((congrFun (f75 31 (by decide)) 11).trans (congrFun (f56 31 (by decide)) 11)) ((f75 33 (by decide)).trans (f56 33 (by decide))) ((f75 35 (by decide)).trans (f56 35 (by decide))) ((f75 36 (by decide)).trans (f56 36 (by decide))) hI31
      have I98 : jI38 σ73 := jI38_fr (congrFun (f75 38 (by decide)) 0) (congrFun (f75 38 (by decide)) 1) (f75 39 (by decide)) I58
      have I99 : jI43 σ73 := jI43_fr ((congrFun (f75 43 (by decide)) 8).trans (congrFun (f56 43 (by decide)) 8)) hI43
      have I100 : jI47 σ73 := jI47_fr ((congrFun (f75 47 (by decide)) 0).trans (congrFun (f56 47 (by decide)) 0)) ((f75 48 (by decide)).trans (f56 48 (by decide))) ((f75 49 (by decide)).trans (f56 49 (by decide))) hI47
      have I101 : jI50 σ73 := jI50_fr ((f75 52 (by decide)).trans (f56 52 (by decide))) hI50
      have I102 : jI0 σ73 := jI0_fr ((f75 1 (by decide)).trans (f56 1 (by decide))) hI0
      have I103 : jI26 σ73 := jI26_fr ((congrFun (f75 26 (by decide)) 6).trans (congrFun (f56 26 (by decide)) 6)) hI26
      have I104 : jI101 σ73 := jI101_fr ((f76 4 (by decide)).trans (congrFun (f56 55 (by decide)) 4)) ((f76 5 (by decide)).trans (congrFun (f56 55 (by decide)) 5)) ((f75 56 (by decide)).trans (f56 56 (by decide))) ((f75 57 (by decide)).trans (f56 57 (by decide))) ((f75 58 (by decide)).trans (f56 58 (by decide))) ((f75 59 (by decide)).trans (f56 59 (by decide))) hI101
      have I105 : jI102 σ73 := jI102_fr ((f76 6 (by decide)).trans (congrFun (f56 55 (by decide)) 6)) ((f75 60 (by decide)).trans (f56 60 (by decide))) ((f75 61 (by decide)).trans (f56 61 (by decide))) hI102
      have I106 : jI103 σ73 := jI103_fr ((f76 9 (by decide)).trans (congrFun (f56 55 (by decide)) 9)) hI103
      have I107 : jI104 σ73 := jI104_fr ((f76 10 (by decide)).trans (congrFun (f56 55 (by decide)) 10)) ((f76 12 (by decide)).trans (congrFun (f56 55 (by decide)) 12)) ((f76 13 (by decide)).trans (congrFun (f56 55 (by decide)) 13)) ((f75 62 (by decide)).trans (f56 62 (by decide))) ((f75 67 (by decide)).trans (f56 67 (by decide))) hI104
      have I108 : jI105 σ73 := jI105_fr ((f76 15 (by decide)).trans (congrFun (f56 55 (by decide)) 15)) ((f75 65 (by decide)).trans (f56 65 (by decide))) hI105
      have I109 : jI107 σ73 := jI107_fr ((f76 12 (by decide)).trans (congrFun (f56 55 (by decide)) 12)) ((f76 47 (by decide)).trans (congrFun (f56 55 (by decide)) 47)) ((f75 80 (by decide)).trans (f56 80 (by decide))) hI107
      have I110 : jI109 σ73 := jI109_fr ((f76 50 (by decide)).trans (congrFun (f56 55 (by decide)) 50)) hI109
      have I111 : jI110 σ73 := jI110_fr ((f75 86 (by decide)).trans (f56 86 (by decide))) ((f75 87 (by decide)).trans (f56 87 (by decide))) hI110
      have I112 : jI111 σ73 := jI111_fr ((f75 79 (by decide)).trans (f56 79 (by decide))) hI111
      have I113 : jI119 σ73 := jI119_fr ((f75 68 (by decide)).trans (f56 68 (by decide))) hI119
      have p114 : jKept σ73 := jKept.fr ((f75 75 (by decide)).trans (f56 75 (by decide))) ((f75 76 (by decide)).trans (f56 76 (by decide))) ((f75 77 (by decide)).trans (f56 77 (by decide))) hs_jKept
      have p115 : jBook σ73 := jBook.fr ((f76 47 (by decide)).trans (congrFun (f56 55 (by decide)) 47)) ((f76 10 (by decide)).trans (congrFun (f56 55 (by decide)) 10)) ((f75 81 (by decide)).trans (f56 81 (by decide))) hs_jBook
      have p116 : jNd12 σ73 := jNd12.fr ((congrFun (f75 12 (by decide)) 0).trans (congrFun (f56 12 (by decide)) 0)) ((congrFun (f75 12 (by decide)) 1).trans (congrFun (f56 12 (by decide)) 1)) ((f75 13 (by decide)).trans (f56 13 (by decide))) hs_jNd12
      have p117 : jN67 σ73 := jN67.fr ((f75 24 (by decide)).trans (f56 24 (by decide))) hs_jN67
      have p118 : jBl σ73 := jBl.fr ((congrFun (f75 22 (by decide)) 0).trans (congrFun (f56 22 (by decide)) 0)) ((congrFun (f75 22 (by decide)) 1).trans (congrFun (f56 22 (by decide)) 1)) ((f75 23 (by decide)).trans (f56 23 (by decide))) ((congrFun (f75 26 (by decide)) 6).trans (congrFun (f56 26 (by decide)) 6)) ((congrFun (f75 26 (by decide)) 7).trans (congrFun (f56 26 (by decide)) 7)) ((f75 29 (by decide)).trans (f56 29 (by decide))) ((f75 30 (by decide)).trans (f56 30 (by decide))) hs_jBl
      have p119 : jKb σ73 := jKb.fr ((congrFun (f75 31 (by decide)) 8).trans (congrFun (f56 31 (by decide)) 8)) ((congrFun (f75 31 (by decide)) 11).trans (congrFun (f56 31 (by decide)) 11)) ((f75 32 (by decide)).trans (f56 32 (by decide))) hs_jKb
      have p120 : jTR σ73 := jTR.fr ((f75 64 (by decide)).trans (f56 64 (by decide))) ((f75 65 (by decide)).trans (f56 65 (by decide))) hs_jTR
      have p121 : jKh σ73 := jKh.fr ((congrFun (f75 31 (by decide)) 8).trans (congrFun (f56 31 (by decide)) 8)) ((f75 32 (by decide)).trans (f56 32 (by decide))) ((f75 36 (by decide)).trans (f56 36 (by decide))) ((f75 37 (by decide)).trans (f56 37 (by decide))) hs_jKh
      have p122 : jKg σ73 := jKg.fr ((congrFun (f75 31 (by decide)) 8).trans (congrFun (f56 31 (by decide)) 8)) ((congrFun (f75 31 (by decide)) 9).trans (congrFun (f56 31 (by decide)) 9)) ((congrFun (f75 31 (by decide)) 11).trans (congrFun (f56 31 (by decide)) 11)) ((congrFun (f75 31 (by decide)) 12).trans (congrFun (f56 31 (by decide)) 12)) ((f75 32 (by decide)).trans (f56 32 (by decide))) ((f75 33 (by decide)).trans (f56 33 (by decide))) hs_jKg
      have z123 : (σ73 2 0).toInt = (σ 2 0).toInt := (congrArg Int32.toInt (show σ73 2 0 = (σ 2 0) from ((congrFun (f75 2 (by decide)) 0).trans (congrFun (f56 2 (by decide)) 0))))
      have z124 : (σ73 55 6).toInt = (σ 55 6).toInt := (congrArg Int32.toInt (show σ73 55 6 = (σ 55 6) from ((f76 6 (by decide)).trans (congrFun (f56 55 (by decide)) 6))))
      have z125 : (σ73 2 2).toInt = (σ 2 2).toInt := (congrArg Int32.toInt (show σ73 2 2 = (σ 2 2) from ((congrFun (f75 2 (by decide)) 2).trans (congrFun (f56 2 (by decide)) 2))))
      have z126 : (σ73 55 5).toInt = (σ 55 5).toInt := (congrArg Int32.toInt (show σ73 55 5 = (σ 55 5) from ((f76 5 (by decide)).trans (congrFun (f56 55 (by decide)) 5))))
      have z127 : (σ73 2 3).toInt = (σ 2 3).toInt := (congrArg Int32.toInt (show σ73 2 3 = (σ 2 3) from ((congrFun (f75 2 (by decide)) 3).trans (congrFun (f56 2 (by decide)) 3))))
      have z128 : (σ73 55 4).toInt = (σ 55 4).toInt := (congrArg Int32.toInt (show σ73 55 4 = (σ 55 4) from ((f76 4 (by decide)).trans (congrFun (f56 55 (by decide)) 4))))
      have z129 : (σ73 9 0).toInt = (σ 9 0).toInt := (congrArg Int32.toInt (show σ73 9 0 = (σ 9 0) from ((congrFun (f75 9 (by decide)) 0).trans (congrFun (f56 9 (by decide)) 0))))
      have z130 : (σ73 55 15).toInt = (σ 55 15).toInt := (congrArg Int32.toInt (show σ73 55 15 = (σ 55 15) from ((f76 15 (by decide)).trans (congrFun (f56 55 (by decide)) 15))))
      have z131 : (σ73 16 0).toInt = (σ 16 0).toInt := (congrArg Int32.toInt (show σ73 16 0 = (σ 16 0) from ((congrFun (f75 16 (by decide)) 0).trans (congrFun (f56 16 (by decide)) 0))))
      have z132 : (σ73 55 10).toInt = (σ 55 10).toInt := (congrArg Int32.toInt (show σ73 55 10 = (σ 55 10) from ((f76 10 (by decide)).trans (congrFun (f56 55 (by decide)) 10))))
      have z133 : (σ73 16 1).toInt = (σ 16 1).toInt := (congrArg Int32.toInt (show σ73 16 1 = (σ 16 1) from ((congrFun (f75 16 (by decide)) 1).trans (congrFun (f56 16 (by decide)) 1))))
      have z134 : (σ73 55 12).toInt = (σ 55 12).toInt := (congrArg Int32.toInt (show σ73 55 12 = (σ 55 12) from ((f76 12 (by decide)).trans (congrFun (f56 55 (by decide)) 12))))
      have z135 : (σ73 16 2).toInt = (σ 16 2).toInt := (congrArg Int32.toInt (show σ73 16 2 = (σ 16 2) from ((congrFun (f75 16 (by decide)) 2).trans (congrFun (f56 16 (by decide)) 2))))
      have z136 : (σ73 55 13).toInt = (σ 55 13).toInt := (congrArg Int32.toInt (show σ73 55 13 = (σ 55 13) from ((f76 13 (by decide)).trans (congrFun (f56 55 (by decide)) 13))))
      have z137 : (σ73 38 0).toInt = (σ54 38 0).toInt := (congrArg Int32.toInt (show σ73 38 0 = (σ54 38 0) from (congrFun (f75 38 (by decide)) 0)))
      have z138 : (σ73 38 1).toInt = (σ 38 1).toInt := (congrArg Int32.toInt (show σ73 38 1 = (σ 38 1) from ((congrFun (f75 38 (by decide)) 1).trans (f57 1 (by decide)))))
      have z139 : (σ73 55 55).toInt = (σ 55 55).toInt := (congrArg Int32.toInt (show σ73 55 55 = (σ 55 55) from ((f76 55 (by decide)).trans (congrFun (f56 55 (by decide)) 55))))
      have z140 : (σ73 47 0).toInt = (σ 47 0).toInt := (congrArg Int32.toInt (show σ73 47 0 = (σ 47 0) from ((congrFun (f75 47 (by decide)) 0).trans (congrFun (f56 47 (by decide)) 0))))
      have z141 : (σ73 55 47).toInt = (σ 55 47).toInt := (congrArg Int32.toInt (show σ73 55 47 = (σ 55 47) from ((f76 47 (by decide)).trans (congrFun (f56 55 (by decide)) 47))))
      have z142 : (σ73 55 30).toInt = (σ 55 30).toInt := (congrArg Int32.toInt (show σ73 55 30 = (σ 55 30) from ((f76 30 (by decide)).trans (congrFun (f56 55 (by decide)) 30))))
      have z143 : (σ73 55 31).toInt = (σ 55 31).toInt := (congrArg Int32.toInt (show σ73 55 31 = (σ 55 31) from ((f76 31 (by decide)).trans (congrFun (f56 55 (by decide)) 31))))
      have z144 : (σ73 2 1).toInt = (σ 2 1).toInt := (congrArg Int32.toInt (show σ73 2 1 = (σ 2 1) from ((congrFun (f75 2 (by decide)) 1).trans (congrFun (f56 2 (by decide)) 1))))
      have z145 : (σ73 55 9).toInt = (σ 55 9).toInt := (congrArg Int32.toInt (show σ73 55 9 = (σ 55 9) from ((f76 9 (by decide)).trans (congrFun (f56 55 (by decide)) 9))))
      have z146 : (σ73 26 6).toInt = (σ 26 6).toInt := (congrArg Int32.toInt (show σ73 26 6 = (σ 26 6) from ((congrFun (f75 26 (by decide)) 6).trans (congrFun (f56 26 (by decide)) 6))))
      have z148 : (σ73 18 0).toInt = (σ 18 0).toInt := (congrArg Int32.toInt (show σ73 18 0 = (σ 18 0) from ((congrFun (f75 18 (by decide)) 0).trans (congrFun (f56 18 (by decide)) 0))))
      have z149 : (σ73 22 0).toInt = (σ 22 0).toInt := (congrArg Int32.toInt (show σ73 22 0 = (σ 22 0) from ((congrFun (f75 22 (by decide)) 0).trans (congrFun (f56 22 (by decide)) 0))))
      exact ih x90 σ73 τ _ _ ls (by have h9 := tx90; omega) ⟨I91, I92, I93, I94, I95, I96, I97, I98, I99, I100, I101, I102, I103, I104, I105, I106, I107, I108, I77, I109, I110, I111, I112, I113, p114, p115, p116, p117, p118, p119, p120, p121, p122, (by omega), (by omega), (by omega), (by omega), (by omega), (by omega), (by omega), (by omega), (by omega), (by omega), (by omega), (by omega), (by omega), (by have h9 := tx90; omega), (show jNumP (σ73 3) (σ73 56) (σ73 6) (σ73 57) (σ73 7) (σ73 58) (σ73 8) (σ73 59) (σ73 55 6).toInt (σ73 55 4).toInt by rw [show σ73 3 = σ 3 from ((f75 3 (by decide)).trans (f56 3 (by decide))), show σ73 56 = σ 56 from ((f75 56 (by decide)).trans (f56 56 (by decide))), show σ73 6 = σ 6 from ((f75 6 (by decide)).trans (f56 6 (by decide))), show σ73 57 = σ 57 from ((f75 57 (by decide)).trans (f56 57 (by decide))), show σ73 7 = σ 7 from ((f75 7 (by decide)).trans (f56 7 (by decide))), show σ73 58 = σ 58 from ((f75 58 (by decide)).trans (f56 58 (by decide))), show σ73 8 = σ 8 from ((f75 8 (by decide)).trans (f56 8 (by decide))), show σ73 59 = σ 59 from ((f75 59 (by decide)).trans (f56 59 (by decide))), show (σ73 55 6).toInt = (σ 55 6).toInt from by omega, show (σ73 55 4).toInt = (σ 55 4).toInt from by omega]; exact hr0), (show jOvP (σ73 56) (σ73 57) (σ73 58) (σ73 59) (σ73 55 4).toInt by rw [show σ73 56 = σ 56 from ((f75 56 (by decide)).trans (f56 56 (by decide))), show σ73 57 = σ 57 from ((f75 57 (by decide)).trans (f56 57 (by decide))), show σ73 58 = σ 58 from ((f75 58 (by decide)).trans (f56 58 (by decide))), show σ73 59 = σ 59 from ((f75 59 (by decide)).trans (f56 59 (by decide))), show (σ73 55 4).toInt = (σ 55 4).toInt from by omega]; exact hr1), (show jTp (σ73 10) (σ73 63) (σ73 55 15).toInt by rw [show σ73 10 = σ 10 from ((f75 10 (by decide)).trans (f56 10 (by decide))), show σ73 63 = σ 63 from ((f75 63 (by decide)).trans (f56 63 (by decide)))]; exact hr2.le (by omega)), (show jSo (σ73 17) (σ73 62) (σ73 16 0).toInt by rw [show σ73 17 = σ 17 from ((f75 17 (by decide)).trans (f56 17 (by decide))), show σ73 62 = σ 62 from ((f75 62 (by decide)).trans (f56 62 (by decide))), show (σ73 16 0).toInt = (σ 16 0).toInt from by omega]; exact hr3), (show jShP (σ73 51) (σ73 52) (σ73 53) (σ73 86) (σ73 87) (σ73 55 32).toInt by rw [show σ73 51 = σ 51 from ((f75 51 (by decide)).trans (f56 51 (by decide))), show σ73 52 = σ 52 from ((f75 52 (by decide)).trans (f56 52 (by decide))), show σ73 53 = σ 53 from ((f75 53 (by decide)).trans (f56 53 (by decide))), show σ73 86 = σ 86 from ((f75 86 (by decide)).trans (f56 86 (by decide))), show σ73 87 = σ 87 from ((f75 87 (by decide)).trans (f56 87 (by decide)))]; exact (hr4.up (by omega) (by omega))), (show jEl (σ73 51) (σ73 52) (τ 54) (τ 88) by rw [show σ73 51 = σ 51 from ((f75 51 (by decide)).trans (f56 51 (by decide))), show σ73 52 = σ 52 from ((f75 52 (by decide)).trans (f56 52 (by decide)))]; exact hr5), (show jByP (σ73 51) (σ73 52) (τ 54) by rw [show σ73 51 = σ 51 from ((f75 51 (by decide)).trans (f56 51 (by decide))), show σ73 52 = σ 52 from ((f75 52 (by decide)).trans (f56 52 (by decide)))]; exact hr6), (show jBk (σ73 48) (σ73 80) (σ73 49) (σ73 81) (σ73 55 47).toInt by rw [show σ73 48 = σ 48 from ((f75 48 (by decide)).trans (f56 48 (by decide))), show σ73 49 = σ 49 from ((f75 49 (by decide)).trans (f56 49 (by decide))), show σ73 80 = σ 80 from ((f75 80 (by decide)).trans (f56 80 (by decide))), show σ73 81 = σ 81 from ((f75 81 (by decide)).trans (f56 81 (by decide))), show (σ73 55 47).toInt = (σ 55 47).toInt from by omega]; exact hr7), (show jKd (σ73 39) (σ73 70) (σ73 55 32).toInt by rw [show σ73 39 = σ 39 from ((f75 39 (by decide)).trans k69), show σ73 70 = σ 70 from (k88.trans (f56 70 (by decide))), show (σ73 55 32).toInt = (σ 55 32).toInt from by omega]; exact hr8), (show jTt (σ73 42) (σ73 85) (σ73 55 55).toInt by rw [show σ73 42 = σ 42 from ((f75 42 (by decide)).trans (f56 42 (by decide))), show σ73 85 = σ 85 from ((f75 85 (by decide)).trans (f56 85 (by decide))), show (σ73 55 55).toInt = (σ 55 55).toInt from by omega]; exact hr9), (fun k hk => by rw [show σ73 4 = σ 4 from ((f75 4 (by decide)).trans (f56 4 (by decide))), show σ73 5 = σ 5 from ((f75 5 (by decide)).trans (f56 5 (by decide))), show σ73 60 = σ 60 from ((f75 60 (by decide)).trans (f56 60 (by decide))), show σ73 61 = σ 61 from ((f75 61 (by decide)).trans (f56 61 (by decide)))]; exact hr10 k (by omega)), (fun nm => by rw [show σ73 19 = σ 19 from ((f75 19 (by decide)).trans (f56 19 (by decide))), show σ73 64 = σ 64 from ((f75 64 (by decide)).trans (f56 64 (by decide))), show σ73 65 = σ 65 from ((f75 65 (by decide)).trans (f56 65 (by decide))), show (σ73 18 0).toInt = (σ 18 0).toInt from by omega]; exact hr11 nm), (fun nm => by rw [show σ73 23 = σ 23 from ((f75 23 (by decide)).trans (f56 23 (by decide))), show σ73 64 = σ 64 from ((f75 64 (by decide)).trans (f56 64 (by decide))), show σ73 65 = σ 65 from ((f75 65 (by decide)).trans (f56 65 (by decide))), show (σ73 22 0).toInt = (σ 22 0).toInt from by omega]; exact hr12 nm)⟩ hP hS (lv_sub hl [0, 1, 2, 3] rfl)
    · obtain ⟨q154, k150, k151, k152, k153⟩ := h84
      have q154 := q154.symm
      subst q154
      exact absurd k152 k68
    · obtain ⟨q160, k155, k156, k157, k158, k159⟩ := h85
      exact absurd k158 k68
  · obtain ⟨q165, k161, k162, k163, k164⟩ := h65
    have q165 := q165.symm
    subst q165
    refine lv_pop hx hb dL_law_502 rfl ?_
    refine lv_aload_n hx hb dL_law_503 rfl (lv_at hl 1 rfl) ?_
    refine lv_aload_n hx hb dL_law_504 rfl (lv_at hl 3 rfl) ?_
    refine lv_iload_n hx hb dL_law_505 rfl (lv_at hl 0 rfl) ?_
    refine lv_iconst (v := 1) hx hb dL_law_506 (by decide) ?_
    refine lv_iadd hx hb dL_law_507 ?_
    refine jtopr ex48.symm ?_
    refine va_sld hx hb hX hbl hbA hS (jin tx48 (by omega) (by omega)) dL_law_508 ?_
    refine lv_aload_n hx hb dL_law_509 rfl (lv_at hl 3 rfl) ?_
    refine lv_iload_n hx hb dL_law_510 rfl (lv_at hl 0 rfl) ?_
    refine lv_iconst (v := 2) hx hb dL_law_511 (by decide) ?_
    refine lv_iadd hx hb dL_law_512 ?_
    refine jtopr ex50.symm ?_
    refine va_sld hx hb hX hbl hbA hS (jin tx50 (by omega) (by omega)) dL_law_513 ?_
    refine lv_aload_n hx hb dL_law_514 rfl (lv_at hl 3 rfl) ?_
    refine lv_iload_n hx hb dL_law_515 rfl (lv_at hl 0 rfl) ?_
    refine lv_iconst (v := 3) hx hb dL_law_516 (by decide) ?_
    refine lv_iadd hx hb dL_law_517 ?_
    refine jtopr ex52.symm ?_
    refine va_sld hx hb hX hbl hbA hS (jin tx52 (by omega) (by omega)) dL_law_518 ?_
    have I166 : jI106 σ54 := jI106_fr (congrFun (f56 55 (by decide)) 32) (f56 70 (by decide)) (f56 71 (by decide)) (f56 72 (by decide)) hI106
    have z167 : (σ54 55 32).toInt = (σ 55 32).toInt := (congrArg Int32.toInt (show σ54 55 32 = (σ 55 32) from (congrFun (f56 55 (by decide)) 32)))
    refine jcallV (As := [.int (xs x48.toNatClampNeg), .int (xs x50.toNatClampNeg), .int (xs x52.toNatClampNeg)]) (rest := []) ⟨hx, hb, hml, hown, hts⟩ hK hP hA hS hZ (c_X12_rule l D cI cL ad zz hJ σ54 τ (xs x48.toNatClampNeg) ((xs x48.toNatClampNeg).toInt) rfl (xs x50.toNatClampNeg) ((xs x50.toNatClampNeg).toInt) rfl (xs x52.toNatClampNeg) ((xs x52.toNatClampNeg).toInt) rfl I166) cw_RL_56 (jc_55 cI cL ad σ54 τ) rfl ⟨Nat.le_of_ble_eq_true rfl, Nat.le_of_ble_eq_true rfl⟩ rfl rfl rfl hl.1 rfl (Nat.le_of_ble_eq_true rfl) dL_law_519 ⟨Nat.le_of_ble_eq_true rfl, Nat.le_of_ble_eq_true rfl⟩ (fun r169 σ168 τ168 H locs h168 hP hS => ?_)
    obtain ⟨rfl, f170, f171, I172, h168⟩ := h168
    obtain ⟨i174, w175, w176, w177⟩ : (0 ≤ (σ168 55 32).toInt ∧ (σ168 55 32).toInt ≤ 20) ∧ (∀ k : Nat, k < 20 → 0 ≤ (σ168 70 k).toInt ∧ (σ168 70 k).toInt ≤ 6) ∧ (∀ k : Nat, k < 20 → 0 ≤ (σ168 71 k).toInt ∧ (σ168 71 k).toInt ≤ 8) ∧ (∀ k : Nat, k < 160 → 0 ≤ (σ168 72 k).toInt ∧ (σ168 72 k).toInt ≤ 3) := id I172
    rcases h168 with h178 | h179 | h180
    · obtain ⟨q184, k181, k182, k183⟩ := h178
      have q184 := q184.symm
      subst q184
      exact absurd k163 k182
    · obtain ⟨q189, k185, k186, k187, k188⟩ := h179
      have q189 := q189.symm
      subst q189
      refine lv_pop hx hb dL_law_522 rfl ?_
      refine lv_goto (tgt := 1357) hx hb dL_law_523 (by decide) ?_
      obtain ⟨x190, ex190⟩ : ∃ y : Int32, y = x0 + 6 := ⟨_, rfl⟩
      have tx190 : x190.toInt = x0.toInt + 6 := (jadd ex190 rfl jz_6 (by omega) (by omega)).trans (by omega)
      refine lv_iinc (v := x190) (lv' := [(3, .int x190), (2, .ref (ad 55)), (1, .ref (ad 0)), (0, .ref b)]) hx hb dL_law_1357 hl (k := 0) rfl (by rw [ex190]; rfl) (by decide) rfl (fun ls hl => ?_)
      refine lv_goto (tgt := 18) hx hb dL_law_1360 (by decide) ?_
      have I191 : jI2 σ168 := jI2_fr ((congrFun (f170 2 (by decide)) 0).trans (congrFun (f56 2 (by decide)) 0)) ((congrFun (f170 2 (by decide)) 1).trans (congrFun (f56 2 (by decide)) 1)) ((congrFun (f170 2 (by decide)) 2).trans (congrFun (f56 2 (by decide)) 2)) ((congrFun (f170 2 (by decide)) 3).trans (congrFun (f56 2 (by decide)) 3)) ((f170 6 (by decide)).trans (f56 6 (by decide))) hI2
      have I192 : jI9 σ168 := jI9_fr ((congrFun (f170 9 (by decide)) 0).trans (congrFun (f56 9 (by decide)) 0)) ((f170 10 (by decide)).trans (f56 10 (by decide))) ((f170 11 (by decide)).trans (f56 11 (by decide))) hI9
      have I193 : jI12 σ168 := jI12_fr ((congrFun (f170 12 (by decide)) 0).trans (congrFun (f56 12 (by decide)) 0)) ((f170 13 (by decide)).trans (f56 13 (by decide))) hI12
      have I194 : jI16 σ168 := jI16_fr ((congrFun (f170 16 (by decide)) 0).trans (congrFun (f56 16 (by decide)) 0)) ((congrFun (f170 16 (by decide)) 1).trans (congrFun (f56 16 (by decide)) 1)) ((congrFun (f170 16 (by decide)) 2).trans (congrFun (f56 16 (by decide)) 2)) ((f170 17 (by decide)).trans (f56 17 (by decide))) hI16
      have I195 : jI18 σ168 := jI18_fr ((congrFun (f170 18 (by decide)) 0).trans (congrFun (f56 18 (by decide)) 0)) ((f170 19 (by decide)).trans (f56 19 (by decide))) hI18
      have I196 : jI22 σ168 := jI22_fr ((congrFun (f170 22 (by decide)) 0).trans (congrFun (f56 22 (by decide)) 0)) ((f170 23 (by decide)).trans (f56 23 (by decide))) hI22
      have I197 : jI31 σ168 := jI31_fr ((congrFun (f170 31 (by decide)) 8).trans (congrFun (f56 31 (by decide)) 8)) ((congrFun (f170 31 (by decide)) 10).trans (congrFun (f56 31 (by decide)) 10)) ((congrFun (f170 31 (by decide)) 11).trans (congrFun (f56 31 (by decide)) 11)) ((f170 33 (by decide)).trans (f56 33 (by decide))) ((f170 35 (by decide)).trans (f56 35 (by decide))) ((f170 36 (by decide)).trans (f56 36 (by decide))) hI31
      have I198 : jI38 σ168 := jI38_fr (congrFun (f170 38 (by decide)) 0) (congrFun (f170 38 (by decide)) 1) (f170 39 (by decide)) I58
      have I199 : jI43 σ168 := jI43_fr ((congrFun (f170 43 (by decide)) 8).trans (congrFun (f56 43 (by decide)) 8)) hI43
      have I200 : jI47 σ168 := jI47_fr ((congrFun (f170 47 (by decide)) 0).trans (congrFun (f56 47 (by decide)) 0)) ((f170 48 (by decide)).trans (f56 48 (by decide))) ((f170 49 (by decide)).trans (f56 49 (by decide))) hI47
      have I201 : jI50 σ168 := jI50_fr ((f170 52 (by decide)).trans (f56 52 (by decide))) hI50
      have I202 : jI0 σ168 := jI0_fr ((f170 1 (by decide)).trans (f56 1 (by decide))) hI0
      have I203 : jI26 σ168 := jI26_fr ((congrFun (f170 26 (by decide)) 6).trans (congrFun (f56 26 (by decide)) 6)) hI26
      have I204 : jI101 σ168 := jI101_fr ((f171 4 (by decide)).trans (congrFun (f56 55 (by decide)) 4)) ((f171 5 (by decide)).trans (congrFun (f56 55 (by decide)) 5)) ((f170 56 (by decide)).trans (f56 56 (by decide))) ((f170 57 (by decide)).trans (f56 57 (by decide))) ((f170 58 (by decide)).trans (f56 58 (by decide))) ((f170 59 (by decide)).trans (f56 59 (by decide))) hI101
      have I205 : jI102 σ168 := jI102_fr ((f171 6 (by decide)).trans (congrFun (f56 55 (by decide)) 6)) ((f170 60 (by decide)).trans (f56 60 (by decide))) ((f170 61 (by decide)).trans (f56 61 (by decide))) hI102
      have I206 : jI103 σ168 := jI103_fr ((f171 9 (by decide)).trans (congrFun (f56 55 (by decide)) 9)) hI103
      have I207 : jI104 σ168 := jI104_fr ((f171 10 (by decide)).trans (congrFun (f56 55 (by decide)) 10)) ((f171 12 (by decide)).trans (congrFun (f56 55 (by decide)) 12)) ((f171 13 (by decide)).trans (congrFun (f56 55 (by decide)) 13)) ((f170 62 (by decide)).trans (f56 62 (by decide))) ((f170 67 (by decide)).trans (f56 67 (by decide))) hI104
      have I208 : jI105 σ168 := jI105_fr ((f171 15 (by decide)).trans (congrFun (f56 55 (by decide)) 15)) ((f170 65 (by decide)).trans (f56 65 (by decide))) hI105
      have I209 : jI107 σ168 := jI107_fr ((f171 12 (by decide)).trans (congrFun (f56 55 (by decide)) 12)) ((f171 47 (by decide)).trans (congrFun (f56 55 (by decide)) 47)) ((f170 80 (by decide)).trans (f56 80 (by decide))) hI107
      have I210 : jI109 σ168 := jI109_fr ((f171 50 (by decide)).trans (congrFun (f56 55 (by decide)) 50)) hI109
      have I211 : jI110 σ168 := jI110_fr ((f170 86 (by decide)).trans (f56 86 (by decide))) ((f170 87 (by decide)).trans (f56 87 (by decide))) hI110
      have I212 : jI111 σ168 := jI111_fr ((f170 79 (by decide)).trans (f56 79 (by decide))) hI111
      have I213 : jI119 σ168 := jI119_fr ((f170 68 (by decide)).trans (f56 68 (by decide))) hI119
      have p214 : jKept σ168 := jKept.fr ((f170 75 (by decide)).trans (f56 75 (by decide))) ((f170 76 (by decide)).trans (f56 76 (by decide))) ((f170 77 (by decide)).trans (f56 77 (by decide))) hs_jKept
      have p215 : jBook σ168 := jBook.fr ((f171 47 (by decide)).trans (congrFun (f56 55 (by decide)) 47)) ((f171 10 (by decide)).trans (congrFun (f56 55 (by decide)) 10)) ((f170 81 (by decide)).trans (f56 81 (by decide))) hs_jBook
      have p216 : jNd12 σ168 := jNd12.fr ((congrFun (f170 12 (by decide)) 0).trans (congrFun (f56 12 (by decide)) 0)) ((congrFun (f170 12 (by decide)) 1).trans (congrFun (f56 12 (by decide)) 1)) ((f170 13 (by decide)).trans (f56 13 (by decide))) hs_jNd12
      have p217 : jN67 σ168 := jN67.fr ((f170 24 (by decide)).trans (f56 24 (by decide))) hs_jN67
      have p218 : jBl σ168 := jBl.fr ((congrFun (f170 22 (by decide)) 0).trans (congrFun (f56 22 (by decide)) 0)) ((congrFun (f170 22 (by decide)) 1).trans (congrFun (f56 22 (by decide)) 1)) ((f170 23 (by decide)).trans (f56 23 (by decide))) ((congrFun (f170 26 (by decide)) 6).trans (congrFun (f56 26 (by decide)) 6)) ((congrFun (f170 26 (by decide)) 7).trans (congrFun (f56 26 (by decide)) 7)) ((f170 29 (by decide)).trans (f56 29 (by decide))) ((f170 30 (by decide)).trans (f56 30 (by decide))) hs_jBl
      have p219 : jKb σ168 := jKb.fr ((congrFun (f170 31 (by decide)) 8).trans (congrFun (f56 31 (by decide)) 8)) ((congrFun (f170 31 (by decide)) 11).trans (congrFun (f56 31 (by decide)) 11)) ((f170 32 (by decide)).trans (f56 32 (by decide))) hs_jKb
      have p220 : jTR σ168 := jTR.fr ((f170 64 (by decide)).trans (f56 64 (by decide))) ((f170 65 (by decide)).trans (f56 65 (by decide))) hs_jTR
      have p221 : jKh σ168 := jKh.fr ((congrFun (f170 31 (by decide)) 8).trans (congrFun (f56 31 (by decide)) 8)) ((f170 32 (by decide)).trans (f56 32 (by decide))) ((f170 36 (by decide)).trans (f56 36 (by decide))) ((f170 37 (by decide)).trans (f56 37 (by decide))) hs_jKh
      have p222 : jKg σ168 := jKg.fr ((congrFun (f170 31 (by decide)) 8).trans (congrFun (f56 31 (by decide)) 8)) ((congrFun (f170 31 (by decide)) 9).trans (congrFun (f56 31 (by decide)) 9)) ((congrFun (f170 31 (by decide)) 11).trans (congrFun (f56 31 (by decide)) 11)) ((congrFun (f170 31 (by decide)) 12).trans (congrFun (f56 31 (by decide)) 12)) ((f170 32 (by decide)).trans (f56 32 (by decide))) ((f170 33 (by decide)).trans (f56 33 (by decide))) hs_jKg
      have z223 : (σ168 2 0).toInt = (σ 2 0).toInt := (congrArg Int32.toInt (show σ168 2 0 = (σ 2 0) from ((congrFun (f170 2 (by decide)) 0).trans (congrFun (f56 2 (by decide)) 0))))
      have z224 : (σ168 55 6).toInt = (σ 55 6).toInt := (congrArg Int32.toInt (show σ168 55 6 = (σ 55 6) from ((f171 6 (by decide)).trans (congrFun (f56 55 (by decide)) 6))))
      have z225 : (σ168 2 2).toInt = (σ 2 2).toInt := (congrArg Int32.toInt (show σ168 2 2 = (σ 2 2) from ((congrFun (f170 2 (by decide)) 2).trans (congrFun (f56 2 (by decide)) 2))))
      have z226 : (σ168 55 5).toInt = (σ 55 5).toInt := (congrArg Int32.toInt (show σ168 55 5 = (σ 55 5) from ((f171 5 (by decide)).trans (congrFun (f56 55 (by decide)) 5))))
      have z227 : (σ168 2 3).toInt = (σ 2 3).toInt := (congrArg Int32.toInt (show σ168 2 3 = (σ 2 3) from ((congrFun (f170 2 (by decide)) 3).trans (congrFun (f56 2 (by decide)) 3))))
      have z228 : (σ168 55 4).toInt = (σ 55 4).toInt := (congrArg Int32.toInt (show σ168 55 4 = (σ 55 4) from ((f171 4 (by decide)).trans (congrFun (f56 55 (by decide)) 4))))
      have z229 : (σ168 9 0).toInt = (σ 9 0).toInt := (congrArg Int32.toInt (show σ168 9 0 = (σ 9 0) from ((congrFun (f170 9 (by decide)) 0).trans (congrFun (f56 9 (by decide)) 0))))
      have z230 : (σ168 55 15).toInt = (σ 55 15).toInt := (congrArg Int32.toInt (show σ168 55 15 = (σ 55 15) from ((f171 15 (by decide)).trans (congrFun (f56 55 (by decide)) 15))))
      have z231 : (σ168 16 0).toInt = (σ 16 0).toInt := (congrArg Int32.toInt (show σ168 16 0 = (σ 16 0) from ((congrFun (f170 16 (by decide)) 0).trans (congrFun (f56 16 (by decide)) 0))))
      have z232 : (σ168 55 10).toInt = (σ 55 10).toInt := (congrArg Int32.toInt (show σ168 55 10 = (σ 55 10) from ((f171 10 (by decide)).trans (congrFun (f56 55 (by decide)) 10))))
      have z233 : (σ168 16 1).toInt = (σ 16 1).toInt := (congrArg Int32.toInt (show σ168 16 1 = (σ 16 1) from ((congrFun (f170 16 (by decide)) 1).trans (congrFun (f56 16 (by decide)) 1))))
      have z234 : (σ168 55 12).toInt = (σ 55 12).toInt := (congrArg Int32.toInt (show σ168 55 12 = (σ 55 12) from ((f171 12 (by decide)).trans (congrFun (f56 55 (by decide)) 12))))
      have z235 : (σ168 16 2).toInt = (σ 16 2).toInt := (congrArg Int32.toInt (show σ168 16 2 = (σ 16 2) from ((congrFun (f170 16 (by decide)) 2).trans (congrFun (f56 16 (by decide)) 2))))
      have z236 : (σ168 55 13).toInt = (σ 55 13).toInt := (congrArg Int32.toInt (show σ168 55 13 = (σ 55 13) from ((f171 13 (by decide)).trans (congrFun (f56 55 (by decide)) 13))))
      have z237 : (σ168 38 0).toInt = (σ54 38 0).toInt := (congrArg Int32.toInt (show σ168 38 0 = (σ54 38 0) from (congrFun (f170 38 (by decide)) 0)))
      have z238 : (σ168 38 1).toInt = (σ 38 1).toInt := (congrArg Int32.toInt (show σ168 38 1 = (σ 38 1) from ((congrFun (f170 38 (by decide)) 1).trans (f57 1 (by decide)))))
      have z239 : (σ168 55 55).toInt = (σ 55 55).toInt := (congrArg Int32.toInt (show σ168 55 55 = (σ 55 55) from ((f171 55 (by decide)).trans (congrFun (f56 55 (by decide)) 55))))
      have z240 : (σ168 47 0).toInt = (σ 47 0).toInt := (congrArg Int32.toInt (show σ168 47 0 = (σ 47 0) from ((congrFun (f170 47 (by decide)) 0).trans (congrFun (f56 47 (by decide)) 0))))
      have z241 : (σ168 55 47).toInt = (σ 55 47).toInt := (congrArg Int32.toInt (show σ168 55 47 = (σ 55 47) from ((f171 47 (by decide)).trans (congrFun (f56 55 (by decide)) 47))))
      have z242 : (σ168 55 30).toInt = (σ 55 30).toInt := (congrArg Int32.toInt (show σ168 55 30 = (σ 55 30) from ((f171 30 (by decide)).trans (congrFun (f56 55 (by decide)) 30))))
      have z243 : (σ168 55 31).toInt = (σ 55 31).toInt := (congrArg Int32.toInt (show σ168 55 31 = (σ 55 31) from ((f171 31 (by decide)).trans (congrFun (f56 55 (by decide)) 31))))
      have z244 : (σ168 2 1).toInt = (σ 2 1).toInt := (congrArg Int32.toInt (show σ168 2 1 = (σ 2 1) from ((congrFun (f170 2 (by decide)) 1).trans (congrFun (f56 2 (by decide)) 1))))
      have z245 : (σ168 55 9).toInt = (σ 55 9).toInt := (congrArg Int32.toInt (show σ168 55 9 = (σ 55 9) from ((f171 9 (by decide)).trans (congrFun (f56 55 (by decide)) 9))))
      have z246 : (σ168 26 6).toInt = (σ 26 6).toInt := (congrArg Int32.toInt (show σ168 26 6 = (σ 26 6) from ((congrFun (f170 26 (by decide)) 6).trans (congrFun (f56 26 (by decide)) 6))))
      have z248 : (σ168 18 0).toInt = (σ 18 0).toInt := (congrArg Int32.toInt (show σ168 18 0 = (σ 18 0) from ((congrFun (f170 18 (by decide)) 0).trans (congrFun (f56 18 (by decide)) 0))))
      have z249 : (σ168 22 0).toInt = (σ 22 0).toInt := (congrArg Int32.toInt (show σ168 22 0 = (σ 22 0) from ((congrFun (f170 22 (by decide)) 0).trans (congrFun (f56 22 (by decide)) 0))))
      exact ih x190 σ168 τ _ _ ls (by have h9 := tx190; omega) ⟨I191, I192, I193, I194, I195, I196, I197, I198, I199, I200, I201, I202, I203, I204, I205, I206, I207, I208, I172, I209, I210, I211, I212, I213, p214, p215, p216, p217, p218, p219, p220, p221, p222, (by omega), (by omega), (by omega), (by omega), (by omega), (by omega), (by omega), (by omega), (by omega), (by omega), (by omega), (by omega), (by omega), (by have h9 := tx190; omega), (show jNumP (σ168 3) (σ168 56) (σ168 6) (σ168 57) (σ168 7) (σ168 58) (σ168 8) (σ168 59) (σ168 55 6).toInt (σ168 55 4).toInt by rw [show σ168 3 = σ 3 from ((f170 3 (by decide)).trans (f56 3 (by decide))), show σ168 56 = σ 56 from ((f170 56 (by decide)).trans (f56 56 (by decide))), show σ168 6 = σ 6 from ((f170 6 (by decide)).trans (f56 6 (by decide))), show σ168 57 = σ 57 from ((f170 57 (by decide)).trans (f56 57 (by decide))), show σ168 7 = σ 7 from ((f170 7 (by decide)).trans (f56 7 (by decide))), show σ168 58 = σ 58 from ((f170 58 (by decide)).trans (f56 58 (by decide))), show σ168 8 = σ 8 from ((f170 8 (by decide)).trans (f56 8 (by decide))), show σ168 59 = σ 59 from ((f170 59 (by decide)).trans (f56 59 (by decide))), show (σ168 55 6).toInt = (σ 55 6).toInt from by omega, show (σ168 55 4).toInt = (σ 55 4).toInt from by omega]; exact hr0), (show jOvP (σ168 56) (σ168 57) (σ168 58) (σ168 59) (σ168 55 4).toInt by rw [show σ168 56 = σ 56 from ((f170 56 (by decide)).trans (f56 56 (by decide))), show σ168 57 = σ 57 from ((f170 57 (by decide)).trans (f56 57 (by decide))), show σ168 58 = σ 58 from ((f170 58 (by decide)).trans (f56 58 (by decide))), show σ168 59 = σ 59 from ((f170 59 (by decide)).trans (f56 59 (by decide))), show (σ168 55 4).toInt = (σ 55 4).toInt from by omega]; exact hr1), (show jTp (σ168 10) (σ168 63) (σ168 55 15).toInt by rw [show σ168 10 = σ 10 from ((f170 10 (by decide)).trans (f56 10 (by decide))), show σ168 63 = σ 63 from ((f170 63 (by decide)).trans (f56 63 (by decide)))]; exact hr2.le (by omega)), (show jSo (σ168 17) (σ168 62) (σ168 16 0).toInt by rw [show σ168 17 = σ 17 from ((f170 17 (by decide)).trans (f56 17 (by decide))), show σ168 62 = σ 62 from ((f170 62 (by decide)).trans (f56 62 (by decide))), show (σ168 16 0).toInt = (σ 16 0).toInt from by omega]; exact hr3), (show jShP (σ168 51) (σ168 52) (σ168 53) (σ168 86) (σ168 87) (σ168 55 32).toInt by rw [show σ168 51 = σ 51 from ((f170 51 (by decide)).trans (f56 51 (by decide))), show σ168 52 = σ 52 from ((f170 52 (by decide)).trans (f56 52 (by decide))), show σ168 53 = σ 53 from ((f170 53 (by decide)).trans (f56 53 (by decide))), show σ168 86 = σ 86 from ((f170 86 (by decide)).trans (f56 86 (by decide))), show σ168 87 = σ 87 from ((f170 87 (by decide)).trans (f56 87 (by decide)))]; exact (hr4.up (by omega) (by omega))), (show jEl (σ168 51) (σ168 52) (τ 54) (τ 88) by rw [show σ168 51 = σ 51 from ((f170 51 (by decide)).trans (f56 51 (by decide))), show σ168 52 = σ 52 from ((f170 52 (by decide)).trans (f56 52 (by decide)))]; exact hr5), (show jByP (σ168 51) (σ168 52) (τ 54) by rw [show σ168 51 = σ 51 from ((f170 51 (by decide)).trans (f56 51 (by decide))), show σ168 52 = σ 52 from ((f170 52 (by decide)).trans (f56 52 (by decide)))]; exact hr6), (show jBk (σ168 48) (σ168 80) (σ168 49) (σ168 81) (σ168 55 47).toInt by rw [show σ168 48 = σ 48 from ((f170 48 (by decide)).trans (f56 48 (by decide))), show σ168 49 = σ 49 from ((f170 49 (by decide)).trans (f56 49 (by decide))), show σ168 80 = σ 80 from ((f170 80 (by decide)).trans (f56 80 (by decide))), show σ168 81 = σ 81 from ((f170 81 (by decide)).trans (f56 81 (by decide))), show (σ168 55 47).toInt = (σ 55 47).toInt from by omega]; exact hr7), (show jKd (σ168 39) (σ168 70) (σ168 55 32).toInt by rw [show σ168 39 = σ 39 from ((f170 39 (by decide)).trans k164), show σ168 70 = σ 70 from (k188.trans (f56 70 (by decide))), show (σ168 55 32).toInt = (σ 55 32).toInt from by omega]; exact hr8), (show jTt (σ168 42) (σ168 85) (σ168 55 55).toInt by rw [show σ168 42 = σ 42 from ((f170 42 (by decide)).trans (f56 42 (by decide))), show σ168 85 = σ 85 from ((f170 85 (by decide)).trans (f56 85 (by decide))), show (σ168 55 55).toInt = (σ 55 55).toInt from by omega]; exact hr9), (fun k hk => by rw [show σ168 4 = σ 4 from ((f170 4 (by decide)).trans (f56 4 (by decide))), show σ168 5 = σ 5 from ((f170 5 (by decide)).trans (f56 5 (by decide))), show σ168 60 = σ 60 from ((f170 60 (by decide)).trans (f56 60 (by decide))), show σ168 61 = σ 61 from ((f170 61 (by decide)).trans (f56 61 (by decide)))]; exact hr10 k (by omega)), (fun nm => by rw [show σ168 19 = σ 19 from ((f170 19 (by decide)).trans (f56 19 (by decide))), show σ168 64 = σ 64 from ((f170 64 (by decide)).trans (f56 64 (by decide))), show σ168 65 = σ 65 from ((f170 65 (by decide)).trans (f56 65 (by decide))), show (σ168 18 0).toInt = (σ 18 0).toInt from by omega]; exact hr11 nm), (fun nm => by rw [show σ168 23 = σ 23 from ((f170 23 (by decide)).trans (f56 23 (by decide))), show σ168 64 = σ 64 from ((f170 64 (by decide)).trans (f56 64 (by decide))), show σ168 65 = σ 65 from ((f170 65 (by decide)).trans (f56 65 (by decide))), show (σ168 22 0).toInt = (σ 22 0).toInt from by omega]; exact hr12 nm)⟩ hP hS (lv_sub hl [0, 1, 2, 3] rfl)
    · obtain ⟨q255, k250, k251, k252, k253, k254⟩ := h180
      exact absurd (by omega : False) id
  · obtain ⟨q261, k256, k257, k258, k259, k260⟩ := h66
    refine lv_pop hx hb dL_law_502 rfl ?_
    refine lv_aload_n hx hb dL_law_503 rfl (lv_at hl 1 rfl) ?_
    refine lv_aload_n hx hb dL_law_504 rfl (lv_at hl 3 rfl) ?_
    refine lv_iload_n hx hb dL_law_505 rfl (lv_at hl 0 rfl) ?_
    refine lv_iconst (v := 1) hx hb dL_law_506 (by decide) ?_
    refine lv_iadd hx hb dL_law_507 ?_
    refine jtopr ex48.symm ?_
    refine va_sld hx hb hX hbl hbA hS (jin tx48 (by omega) (by omega)) dL_law_508 ?_
    refine lv_aload_n hx hb dL_law_509 rfl (lv_at hl 3 rfl) ?_
    refine lv_iload_n hx hb dL_law_510 rfl (lv_at hl 0 rfl) ?_
    refine lv_iconst (v := 2) hx hb dL_law_511 (by decide) ?_
    refine lv_iadd hx hb dL_law_512 ?_
    refine jtopr ex50.symm ?_
    refine va_sld hx hb hX hbl hbA hS (jin tx50 (by omega) (by omega)) dL_law_513 ?_
    refine lv_aload_n hx hb dL_law_514 rfl (lv_at hl 3 rfl) ?_
    refine lv_iload_n hx hb dL_law_515 rfl (lv_at hl 0 rfl) ?_
    refine lv_iconst (v := 3) hx hb dL_law_516 (by decide) ?_
    refine lv_iadd hx hb dL_law_517 ?_
    refine jtopr ex52.symm ?_
    refine va_sld hx hb hX hbl hbA hS (jin tx52 (by omega) (by omega)) dL_law_518 ?_
    have I262 : jI106 σ54 := jI106_fr (congrFun (f56 55 (by decide)) 32) (f56 70 (by decide)) (f56 71 (by decide)) (f56 72 (by decide)) hI106
    have z263 : (σ54 55 32).toInt = (σ 55 32).toInt := (congrArg Int32.toInt (show σ54 55 32 = (σ 55 32) from (congrFun (f56 55 (by decide)) 32)))
    refine jcallV (As := [.int (xs x48.toNatClampNeg), .int (xs x50.toNatClampNeg), .int (xs x52.toNatClampNeg)]) (rest := []) ⟨hx, hb, hml, hown, hts⟩ hK hP hA hS hZ (c_X12_rule l D cI cL ad zz hJ σ54 τ (xs x48.toNatClampNeg) ((xs x48.toNatClampNeg).toInt) rfl (xs x50.toNatClampNeg) ((xs x50.toNatClampNeg).toInt) rfl (xs x52.toNatClampNeg) ((xs x52.toNatClampNeg).toInt) rfl I262) cw_RL_56 (jc_55 cI cL ad σ54 τ) rfl ⟨Nat.le_of_ble_eq_true rfl, Nat.le_of_ble_eq_true rfl⟩ rfl rfl rfl hl.1 rfl (Nat.le_of_ble_eq_true rfl) dL_law_519 ⟨Nat.le_of_ble_eq_true rfl, Nat.le_of_ble_eq_true rfl⟩ (fun r265 σ264 τ264 H locs h264 hP hS => ?_)
    obtain ⟨rfl, f266, f267, I268, h264⟩ := h264
    obtain ⟨i270, w271, w272, w273⟩ : (0 ≤ (σ264 55 32).toInt ∧ (σ264 55 32).toInt ≤ 20) ∧ (∀ k : Nat, k < 20 → 0 ≤ (σ264 70 k).toInt ∧ (σ264 70 k).toInt ≤ 6) ∧ (∀ k : Nat, k < 20 → 0 ≤ (σ264 71 k).toInt ∧ (σ264 71 k).toInt ≤ 8) ∧ (∀ k : Nat, k < 160 → 0 ≤ (σ264 72 k).toInt ∧ (σ264 72 k).toInt ≤ 3) := id I268
    rcases h264 with h274 | h275 | h276
    · obtain ⟨q280, k277, k278, k279⟩ := h274
      have q280 := q280.symm
      subst q280
      exact absurd k259 k278
    · obtain ⟨q285, k281, k282, k283, k284⟩ := h275
      exact absurd (by omega : False) id
    · obtain ⟨q291, k286, k287, k288, k289, k290⟩ := h276
      refine lv_pop hx hb dL_law_522 rfl ?_
      refine lv_goto (tgt := 1357) hx hb dL_law_523 (by decide) ?_
      obtain ⟨x292, ex292⟩ : ∃ y : Int32, y = x0 + 6 := ⟨_, rfl⟩
      have tx292 : x292.toInt = x0.toInt + 6 := (jadd ex292 rfl jz_6 (by omega) (by omega)).trans (by omega)
      refine lv_iinc (v := x292) (lv' := [(3, .int x292), (2, .ref (ad 55)), (1, .ref (ad 0)), (0, .ref b)]) hx hb dL_law_1357 hl (k := 0) rfl (by rw [ex292]; rfl) (by decide) rfl (fun ls hl => ?_)
      refine lv_goto (tgt := 18) hx hb dL_law_1360 (by decide) ?_
      have I293 : jI2 σ264 := jI2_fr ((congrFun (f266 2 (by decide)) 0).trans (congrFun (f56 2 (by decide)) 0)) ((congrFun (f266 2 (by decide)) 1).trans (congrFun (f56 2 (by decide)) 1)) ((congrFun (f266 2 (by decide)) 2).trans (congrFun (f56 2 (by decide)) 2)) ((congrFun (f266 2 (by decide)) 3).trans (congrFun (f56 2 (by decide)) 3)) ((f266 6 (by decide)).trans (f56 6 (by decide))) hI2
      have I294 : jI9 σ264 := jI9_fr ((congrFun (f266 9 (by decide)) 0).trans (congrFun (f56 9 (by decide)) 0)) ((f266 10 (by decide)).trans (f56 10 (by decide))) ((f266 11 (by decide)).trans (f56 11 (by decide))) hI9
      have I295 : jI12 σ264 := jI12_fr ((congrFun (f266 12 (by decide)) 0).trans (congrFun (f56 12 (by decide)) 0)) ((f266 13 (by decide)).trans (f56 13 (by decide))) hI12
      have I296 : jI16 σ264 := jI16_fr ((congrFun (f266 16 (by decide)) 0).trans (congrFun (f56 16 (by decide)) 0)) ((congrFun (f266 16 (by decide)) 1).trans (congrFun (f56 16 (by decide)) 1)) ((congrFun (f266 16 (by decide)) 2).trans (congrFun (f56 16 (by decide)) 2)) ((f266 17 (by decide)).trans (f56 17 (by decide))) hI16
      have I297 : jI18 σ264 := jI18_fr ((congrFun (f266 18 (by decide)) 0).trans (congrFun (f56 18 (by decide)) 0)) ((f266 19 (by decide)).trans (f56 19 (by decide))) hI18
      have I298 : jI22 σ264 := jI22_fr ((congrFun (f266 22 (by decide)) 0).trans (congrFun (f56 22 (by decide)) 0)) ((f266 23 (by decide)).trans (f56 23 (by decide))) hI22
      have I299 : jI31 σ264 := jI31_fr ((congrFun (f266 31 (by decide)) 8).trans (congrFun (f56 31 (by decide)) 8)) ((congrFun (f266 31 (by decide)) 10).trans (congrFun (f56 31 (by decide)) 10)) ((congrFun (f266 31 (by decide)) 11).trans (congrFun (f56 31 (by decide)) 11)) ((f266 33 (by decide)).trans (f56 33 (by decide))) ((f266 35 (by decide)).trans (f56 35 (by decide))) ((f266 36 (by decide)).trans (f56 36 (by decide))) hI31
      have I300 : jI38 σ264 := jI38_fr (congrFun (f266 38 (by decide)) 0) (congrFun (f266 38 (by decide)) 1) (f266 39 (by decide)) I58
      have I301 : jI43 σ264 := jI43_fr ((congrFun (f266 43 (by decide)) 8).trans (congrFun (f56 43 (by decide)) 8)) hI43
      have I302 : jI47 σ264 := jI47_fr ((congrFun (f266 47 (by decide)) 0).trans (congrFun (f56 47 (by decide)) 0)) ((f266 48 (by decide)).trans (f56 48 (by decide))) ((f266 49 (by decide)).trans (f56 49 (by decide))) hI47
      have I303 : jI50 σ264 := jI50_fr ((f266 52 (by decide)).trans (f56 52 (by decide))) hI50
      have I304 : jI0 σ264 := jI0_fr ((f266 1 (by decide)).trans (f56 1 (by decide))) hI0
      have I305 : jI26 σ264 := jI26_fr ((congrFun (f266 26 (by decide)) 6).trans (congrFun (f56 26 (by decide)) 6)) hI26
      have I306 : jI101 σ264 := jI101_fr ((f267 4 (by decide)).trans (congrFun (f56 55 (by decide)) 4)) ((f267 5 (by decide)).trans (congrFun (f56 55 (by decide)) 5)) ((f266 56 (by decide)).trans (f56 56 (by decide))) ((f266 57 (by decide)).trans (f56 57 (by decide))) ((f266 58 (by decide)).trans (f56 58 (by decide))) ((f266 59 (by decide)).trans (f56 59 (by decide))) hI101
      have I307 : jI102 σ264 := jI102_fr ((f267 6 (by decide)).trans (congrFun (f56 55 (by decide)) 6)) ((f266 60 (by decide)).trans (f56 60 (by decide))) ((f266 61 (by decide)).trans (f56 61 (by decide))) hI102
      have I308 : jI103 σ264 := jI103_fr ((f267 9 (by decide)).trans (congrFun (f56 55 (by decide)) 9)) hI103
      have I309 : jI104 σ264 := jI104_fr ((f267 10 (by decide)).trans (congrFun (f56 55 (by decide)) 10)) ((f267 12 (by decide)).trans (congrFun (f56 55 (by decide)) 12)) ((f267 13 (by decide)).trans (congrFun (f56 55 (by decide)) 13)) ((f266 62 (by decide)).trans (f56 62 (by decide))) ((f266 67 (by decide)).trans (f56 67 (by decide))) hI104
      have I310 : jI105 σ264 := jI105_fr ((f267 15 (by decide)).trans (congrFun (f56 55 (by decide)) 15)) ((f266 65 (by decide)).trans (f56 65 (by decide))) hI105
      have I311 : jI107 σ264 := jI107_fr ((f267 12 (by decide)).trans (congrFun (f56 55 (by decide)) 12)) ((f267 47 (by decide)).trans (congrFun (f56 55 (by decide)) 47)) ((f266 80 (by decide)).trans (f56 80 (by decide))) hI107
      have I312 : jI109 σ264 := jI109_fr ((f267 50 (by decide)).trans (congrFun (f56 55 (by decide)) 50)) hI109
      have I313 : jI110 σ264 := jI110_fr ((f266 86 (by decide)).trans (f56 86 (by decide))) ((f266 87 (by decide)).trans (f56 87 (by decide))) hI110
      have I314 : jI111 σ264 := jI111_fr ((f266 79 (by decide)).trans (f56 79 (by decide))) hI111
      have I315 : jI119 σ264 := jI119_fr ((f266 68 (by decide)).trans (f56 68 (by decide))) hI119
      have p316 : jKept σ264 := jKept.fr ((f266 75 (by decide)).trans (f56 75 (by decide))) ((f266 76 (by decide)).trans (f56 76 (by decide))) ((f266 77 (by decide)).trans (f56 77 (by decide))) hs_jKept
      have p317 : jBook σ264 := jBook.fr ((f267 47 (by decide)).trans (congrFun (f56 55 (by decide)) 47)) ((f267 10 (by decide)).trans (congrFun (f56 55 (by decide)) 10)) ((f266 81 (by decide)).trans (f56 81 (by decide))) hs_jBook
      have p318 : jNd12 σ264 := jNd12.fr ((congrFun (f266 12 (by decide)) 0).trans (congrFun (f56 12 (by decide)) 0)) ((congrFun (f266 12 (by decide)) 1).trans (congrFun (f56 12 (by decide)) 1)) ((f266 13 (by decide)).trans (f56 13 (by decide))) hs_jNd12
      have p319 : jN67 σ264 := jN67.fr ((f266 24 (by decide)).trans (f56 24 (by decide))) hs_jN67
      have p320 : jBl σ264 := jBl.fr ((congrFun (f266 22 (by decide)) 0).trans (congrFun (f56 22 (by decide)) 0)) ((congrFun (f266 22 (by decide)) 1).trans (congrFun (f56 22 (by decide)) 1)) ((f266 23 (by decide)).trans (f56 23 (by decide))) ((congrFun (f266 26 (by decide)) 6).trans (congrFun (f56 26 (by decide)) 6)) ((congrFun (f266 26 (by decide)) 7).trans (congrFun (f56 26 (by decide)) 7)) ((f266 29 (by decide)).trans (f56 29 (by decide))) ((f266 30 (by decide)).trans (f56 30 (by decide))) hs_jBl
      have p321 : jKb σ264 := jKb.fr ((congrFun (f266 31 (by decide)) 8).trans (congrFun (f56 31 (by decide)) 8)) ((congrFun (f266 31 (by decide)) 11).trans (congrFun (f56 31 (by decide)) 11)) ((f266 32 (by decide)).trans (f56 32 (by decide))) hs_jKb
      have p322 : jTR σ264 := jTR.fr ((f266 64 (by decide)).trans (f56 64 (by decide))) ((f266 65 (by decide)).trans (f56 65 (by decide))) hs_jTR
      have p323 : jKh σ264 := jKh.fr ((congrFun (f266 31 (by decide)) 8).trans (congrFun (f56 31 (by decide)) 8)) ((f266 32 (by decide)).trans (f56 32 (by decide))) ((f266 36 (by decide)).trans (f56 36 (by decide))) ((f266 37 (by decide)).trans (f56 37 (by decide))) hs_jKh
      have p324 : jKg σ264 := jKg.fr ((congrFun (f266 31 (by decide)) 8).trans (congrFun (f56 31 (by decide)) 8)) ((congrFun (f266 31 (by decide)) 9).trans (congrFun (f56 31 (by decide)) 9)) ((congrFun (f266 31 (by decide)) 11).trans (congrFun (f56 31 (by decide)) 11)) ((congrFun (f266 31 (by decide)) 12).trans (congrFun (f56 31 (by decide)) 12)) ((f266 32 (by decide)).trans (f56 32 (by decide))) ((f266 33 (by decide)).trans (f56 33 (by decide))) hs_jKg
      have z325 : (σ264 2 0).toInt = (σ 2 0).toInt := (congrArg Int32.toInt (show σ264 2 0 = (σ 2 0) from ((congrFun (f266 2 (by decide)) 0).trans (congrFun (f56 2 (by decide)) 0))))
      have z326 : (σ264 55 6).toInt = (σ 55 6).toInt := (congrArg Int32.toInt (show σ264 55 6 = (σ 55 6) from ((f267 6 (by decide)).trans (congrFun (f56 55 (by decide)) 6))))
      have z327 : (σ264 2 2).toInt = (σ 2 2).toInt := (congrArg Int32.toInt (show σ264 2 2 = (σ 2 2) from ((congrFun (f266 2 (by decide)) 2).trans (congrFun (f56 2 (by decide)) 2))))
      have z328 : (σ264 55 5).toInt = (σ 55 5).toInt := (congrArg Int32.toInt (show σ264 55 5 = (σ 55 5) from ((f267 5 (by decide)).trans (congrFun (f56 55 (by decide)) 5))))
      have z329 : (σ264 2 3).toInt = (σ 2 3).toInt := (congrArg Int32.toInt (show σ264 2 3 = (σ 2 3) from ((congrFun (f266 2 (by decide)) 3).trans (congrFun (f56 2 (by decide)) 3))))
      have z330 : (σ264 55 4).toInt = (σ 55 4).toInt := (congrArg Int32.toInt (show σ264 55 4 = (σ 55 4) from ((f267 4 (by decide)).trans (congrFun (f56 55 (by decide)) 4))))
      have z331 : (σ264 9 0).toInt = (σ 9 0).toInt := (congrArg Int32.toInt (show σ264 9 0 = (σ 9 0) from ((congrFun (f266 9 (by decide)) 0).trans (congrFun (f56 9 (by decide)) 0))))
      have z332 : (σ264 55 15).toInt = (σ 55 15).toInt := (congrArg Int32.toInt (show σ264 55 15 = (σ 55 15) from ((f267 15 (by decide)).trans (congrFun (f56 55 (by decide)) 15))))
      have z333 : (σ264 16 0).toInt = (σ 16 0).toInt := (congrArg Int32.toInt (show σ264 16 0 = (σ 16 0) from ((congrFun (f266 16 (by decide)) 0).trans (congrFun (f56 16 (by decide)) 0))))
      have z334 : (σ264 55 10).toInt = (σ 55 10).toInt := (congrArg Int32.toInt (show σ264 55 10 = (σ 55 10) from ((f267 10 (by decide)).trans (congrFun (f56 55 (by decide)) 10))))
      have z335 : (σ264 16 1).toInt = (σ 16 1).toInt := (congrArg Int32.toInt (show σ264 16 1 = (σ 16 1) from ((congrFun (f266 16 (by decide)) 1).trans (congrFun (f56 16 (by decide)) 1))))
      have z336 : (σ264 55 12).toInt = (σ 55 12).toInt := (congrArg Int32.toInt (show σ264 55 12 = (σ 55 12) from ((f267 12 (by decide)).trans (congrFun (f56 55 (by decide)) 12))))
      have z337 : (σ264 16 2).toInt = (σ 16 2).toInt := (congrArg Int32.toInt (show σ264 16 2 = (σ 16 2) from ((congrFun (f266 16 (by decide)) 2).trans (congrFun (f56 16 (by decide)) 2))))
      have z338 : (σ264 55 13).toInt = (σ 55 13).toInt := (congrArg Int32.toInt (show σ264 55 13 = (σ 55 13) from ((f267 13 (by decide)).trans (congrFun (f56 55 (by decide)) 13))))
      have z339 : (σ264 38 0).toInt = (σ54 38 0).toInt := (congrArg Int32.toInt (show σ264 38 0 = (σ54 38 0) from (congrFun (f266 38 (by decide)) 0)))
      have z340 : (σ264 38 1).toInt = (σ 38 1).toInt := (congrArg Int32.toInt (show σ264 38 1 = (σ 38 1) from ((congrFun (f266 38 (by decide)) 1).trans (f57 1 (by decide)))))
      have z341 : (σ264 55 55).toInt = (σ 55 55).toInt := (congrArg Int32.toInt (show σ264 55 55 = (σ 55 55) from ((f267 55 (by decide)).trans (congrFun (f56 55 (by decide)) 55))))
      have z342 : (σ264 47 0).toInt = (σ 47 0).toInt := (congrArg Int32.toInt (show σ264 47 0 = (σ 47 0) from ((congrFun (f266 47 (by decide)) 0).trans (congrFun (f56 47 (by decide)) 0))))
      have z343 : (σ264 55 47).toInt = (σ 55 47).toInt := (congrArg Int32.toInt (show σ264 55 47 = (σ 55 47) from ((f267 47 (by decide)).trans (congrFun (f56 55 (by decide)) 47))))
      have z344 : (σ264 55 30).toInt = (σ 55 30).toInt := (congrArg Int32.toInt (show σ264 55 30 = (σ 55 30) from ((f267 30 (by decide)).trans (congrFun (f56 55 (by decide)) 30))))
      have z345 : (σ264 55 31).toInt = (σ 55 31).toInt := (congrArg Int32.toInt (show σ264 55 31 = (σ 55 31) from ((f267 31 (by decide)).trans (congrFun (f56 55 (by decide)) 31))))
      have z346 : (σ264 2 1).toInt = (σ 2 1).toInt := (congrArg Int32.toInt (show σ264 2 1 = (σ 2 1) from ((congrFun (f266 2 (by decide)) 1).trans (congrFun (f56 2 (by decide)) 1))))
      have z347 : (σ264 55 9).toInt = (σ 55 9).toInt := (congrArg Int32.toInt (show σ264 55 9 = (σ 55 9) from ((f267 9 (by decide)).trans (congrFun (f56 55 (by decide)) 9))))
      have z348 : (σ264 26 6).toInt = (σ 26 6).toInt := (congrArg Int32.toInt (show σ264 26 6 = (σ 26 6) from ((congrFun (f266 26 (by decide)) 6).trans (congrFun (f56 26 (by decide)) 6))))
      rw [show (σ 38 0).toInt = (σ 55 32).toInt from by omega] at k260
      rw [show (σ54 55 32).toInt = (σ 55 32).toInt from by omega, show σ54 70 = σ 70 from (f56 70 (by decide))] at k290
      have p350 : jKd (σ264 39) (σ264 70) (σ264 55 32).toInt := hr8.on (by rw [show σ264 39 = σ54 39 from (f266 39 (by decide))]; exact k260) k290 (by omega) (by omega)
      have z351 : (σ264 18 0).toInt = (σ 18 0).toInt := (congrArg Int32.toInt (show σ264 18 0 = (σ 18 0) from ((congrFun (f266 18 (by decide)) 0).trans (congrFun (f56 18 (by decide)) 0))))
      have z352 : (σ264 22 0).toInt = (σ 22 0).toInt := (congrArg Int32.toInt (show σ264 22 0 = (σ 22 0) from ((congrFun (f266 22 (by decide)) 0).trans (congrFun (f56 22 (by decide)) 0))))
      exact ih x292 σ264 τ _ _ ls (by have h9 := tx292; omega) ⟨I293, I294, I295, I296, I297, I298, I299, I300, I301, I302, I303, I304, I305, I306, I307, I308, I309, I310, I268, I311, I312, I313, I314, I315, p316, p317, p318, p319, p320, p321, p322, p323, p324, (by omega), (by omega), (by omega), (by omega), (by omega), (by omega), (by omega), (by omega), (by omega), (by omega), (by omega), (by omega), (by omega), (by have h9 := tx292; omega), (show jNumP (σ264 3) (σ264 56) (σ264 6) (σ264 57) (σ264 7) (σ264 58) (σ264 8) (σ264 59) (σ264 55 6).toInt (σ264 55 4).toInt by rw [show σ264 3 = σ 3 from ((f266 3 (by decide)).trans (f56 3 (by decide))), show σ264 56 = σ 56 from ((f266 56 (by decide)).trans (f56 56 (by decide))), show σ264 6 = σ 6 from ((f266 6 (by decide)).trans (f56 6 (by decide))), show σ264 57 = σ 57 from ((f266 57 (by decide)).trans (f56 57 (by decide))), show σ264 7 = σ 7 from ((f266 7 (by decide)).trans (f56 7 (by decide))), show σ264 58 = σ 58 from ((f266 58 (by decide)).trans (f56 58 (by decide))), show σ264 8 = σ 8 from ((f266 8 (by decide)).trans (f56 8 (by decide))), show σ264 59 = σ 59 from ((f266 59 (by decide)).trans (f56 59 (by decide))), show (σ264 55 6).toInt = (σ 55 6).toInt from by omega, show (σ264 55 4).toInt = (σ 55 4).toInt from by omega]; exact hr0), (show jOvP (σ264 56) (σ264 57) (σ264 58) (σ264 59) (σ264 55 4).toInt by rw [show σ264 56 = σ 56 from ((f266 56 (by decide)).trans (f56 56 (by decide))), show σ264 57 = σ 57 from ((f266 57 (by decide)).trans (f56 57 (by decide))), show σ264 58 = σ 58 from ((f266 58 (by decide)).trans (f56 58 (by decide))), show σ264 59 = σ 59 from ((f266 59 (by decide)).trans (f56 59 (by decide))), show (σ264 55 4).toInt = (σ 55 4).toInt from by omega]; exact hr1), (show jTp (σ264 10) (σ264 63) (σ264 55 15).toInt by rw [show σ264 10 = σ 10 from ((f266 10 (by decide)).trans (f56 10 (by decide))), show σ264 63 = σ 63 from ((f266 63 (by decide)).trans (f56 63 (by decide)))]; exact hr2.le (by omega)), (show jSo (σ264 17) (σ264 62) (σ264 16 0).toInt by rw [show σ264 17 = σ 17 from ((f266 17 (by decide)).trans (f56 17 (by decide))), show σ264 62 = σ 62 from ((f266 62 (by decide)).trans (f56 62 (by decide))), show (σ264 16 0).toInt = (σ 16 0).toInt from by omega]; exact hr3), (show jShP (σ264 51) (σ264 52) (σ264 53) (σ264 86) (σ264 87) (σ264 55 32).toInt by rw [show σ264 51 = σ 51 from ((f266 51 (by decide)).trans (f56 51 (by decide))), show σ264 52 = σ 52 from ((f266 52 (by decide)).trans (f56 52 (by decide))), show σ264 53 = σ 53 from ((f266 53 (by decide)).trans (f56 53 (by decide))), show σ264 86 = σ 86 from ((f266 86 (by decide)).trans (f56 86 (by decide))), show σ264 87 = σ 87 from ((f266 87 (by decide)).trans (f56 87 (by decide)))]; exact (hr4.up (by omega) (by omega))), (show jEl (σ264 51) (σ264 52) (τ 54) (τ 88) by rw [show σ264 51 = σ 51 from ((f266 51 (by decide)).trans (f56 51 (by decide))), show σ264 52 = σ 52 from ((f266 52 (by decide)).trans (f56 52 (by decide)))]; exact hr5), (show jByP (σ264 51) (σ264 52) (τ 54) by rw [show σ264 51 = σ 51 from ((f266 51 (by decide)).trans (f56 51 (by decide))), show σ264 52 = σ 52 from ((f266 52 (by decide)).trans (f56 52 (by decide)))]; exact hr6), (show jBk (σ264 48) (σ264 80) (σ264 49) (σ264 81) (σ264 55 47).toInt by rw [show σ264 48 = σ 48 from ((f266 48 (by decide)).trans (f56 48 (by decide))), show σ264 49 = σ 49 from ((f266 49 (by decide)).trans (f56 49 (by decide))), show σ264 80 = σ 80 from ((f266 80 (by decide)).trans (f56 80 (by decide))), show σ264 81 = σ 81 from ((f266 81 (by decide)).trans (f56 81 (by decide))), show (σ264 55 47).toInt = (σ 55 47).toInt from by omega]; exact hr7), p350, (show jTt (σ264 42) (σ264 85) (σ264 55 55).toInt by rw [show σ264 42 = σ 42 from ((f266 42 (by decide)).trans (f56 42 (by decide))), show σ264 85 = σ 85 from ((f266 85 (by decide)).trans (f56 85 (by decide))), show (σ264 55 55).toInt = (σ 55 55).toInt from by omega]; exact hr9), (fun k hk => by rw [show σ264 4 = σ 4 from ((f266 4 (by decide)).trans (f56 4 (by decide))), show σ264 5 = σ 5 from ((f266 5 (by decide)).trans (f56 5 (by decide))), show σ264 60 = σ 60 from ((f266 60 (by decide)).trans (f56 60 (by decide))), show σ264 61 = σ 61 from ((f266 61 (by decide)).trans (f56 61 (by decide)))]; exact hr10 k (by omega)), (fun nm => by rw [show σ264 19 = σ 19 from ((f266 19 (by decide)).trans (f56 19 (by decide))), show σ264 64 = σ 64 from ((f266 64 (by decide)).trans (f56 64 (by decide))), show σ264 65 = σ 65 from ((f266 65 (by decide)).trans (f56 65 (by decide))), show (σ264 18 0).toInt = (σ 18 0).toInt from by omega]; exact hr11 nm), (fun nm => by rw [show σ264 23 = σ 23 from ((f266 23 (by decide)).trans (f56 23 (by decide))), show σ264 64 = σ 64 from ((f266 64 (by decide)).trans (f56 64 (by decide))), show σ264 65 = σ 65 from ((f266 65 (by decide)).trans (f56 65 (by decide))), show (σ264 22 0).toInt = (σ 22 0).toInt from by omega]; exact hr12 nm)⟩ hP hS (lv_sub hl [0, 1, 2, 3] rfl)
set_option maxHeartbeats 4000000 in
set_option maxRecDepth 100000 in
theorem law_case_10 {p : Program} {e : Env} {s : State} {m : MethodId} {below : List Frame} {meth : Method} {c : Code} (l : Launch) {b L : Nat} {xs : Nat → Int32} {D : va_G} {cI cL : ClassId} {ad zz : Nat → Nat} (C0 : lw_At p s m meth c b L xs) (hJ : jD ad) (hA : ∀ q, jA ad q → s.heap.size ≤ q) (hK : jK D cI cL s) (hZ : jZ zz (fun q : Nat => s.heap.size ≤ q) s s.heap) {x0 : Int32} (hx0 : 0 ≤ x0.toInt) (hxL : x0.toInt + 6 ≤ (L : Int)) (hL : L ≤ 384) {σ : Nat → Nat → Int32} {τ : Nat → Nat → Int64} {H : Heap} {locs : List Loc} (hS : va_S (fun q : Nat => s.heap.size ≤ q) s.heap H locs) {ls : Array Slot} (hAll : jAll x0.toInt σ τ) (hP : jH D cI cL ad σ τ H) (hl : lv_has ls 4 [(3, .int x0), (2, .ref (ad 55)), (1, .ref (ad 0)), (0, .ref b)]) (ih : ∀ (x1 : Int32) (σ : Nat → Nat → Int32) (τ : Nat → Nat → Int64) (H : Heap) (locs : List Loc) (ls : Array Slot), x1.toInt = x0.toInt + 6 → jAll x1.toInt σ τ → jH D cI cL ad σ τ H → va_S (fun q : Nat => s.heap.size ≤ q) s.heap H locs → lv_has ls 4 [(3, .int x1), (2, .ref (ad 55)), (1, .ref (ad 0)), (0, .ref b)] → W p l e room_1 s m #[Value.ref b] below meth c H locs 90 348600 (lw_Z below #[Value.ref b] s) (F0 m 18 ls [])) : W p l e room_1 s m #[Value.ref b] below meth c H locs 90 348600 (lw_Z below #[Value.ref b] s) (F0 m 526 ls []) := by
  obtain ⟨hx, hb, hr, hml, hown, hts0, hX, hbl, hlocks, hgv⟩ := C0
  have hts : ∀ w ∈ wsL_law, w.before #[Value.ref b] s = true := fun w h => hts0 w (wsL_law_in w h)
  have hbA : ¬ (fun q : Nat => s.heap.size ≤ q) b := Nat.not_le.mpr hbl
  have hown : s.vm.findClass RL = some m.cls := hown
  obtain ⟨hI2, hI9, hI12, hI16, hI18, hI22, hI31, hI38, hI43, hI47, hI50, hI0, hI26, hI101, hI102, hI103, hI104, hI105, hI106, hI107, hI109, hI110, hI111, hI119, hs_jKept, hs_jBook, hs_jNd12, hs_jN67, hs_jBl, hs_jKb, hs_jTR, hs_jKh, hs_jKg, ht0, ht1, ht2, ht3, ht4, ht5, ht6, ht7, ht8, ht9, ht10, ht11, ht12, ht13, hr0, hr1, hr2, hr3, hr4, hr5, hr6, hr7, hr8, hr9, hr10, hr11, hr12⟩ := hAll
  have hL9 : (L : Int) ≤ 384 := by omega
  obtain ⟨i1, i2, i3, i4, i5, w6⟩ : (0 ≤ (σ 2 0).toInt ∧ (σ 2 0).toInt ≤ 4) ∧ (0 ≤ (σ 2 1).toInt ∧ (σ 2 1).toInt ≤ 3) ∧ (0 ≤ (σ 2 2).toInt) ∧ (0 ≤ (σ 2 3).toInt) ∧ ((σ 2 2).toInt + (σ 2 3).toInt ≤ 40) ∧ (∀ k : Nat, k < 40 → 0 ≤ (σ 6 k).toInt ∧ (σ 6 k).toInt ≤ 67) := id hI2
  obtain ⟨i7, w8, w9⟩ : (0 ≤ (σ 9 0).toInt ∧ (σ 9 0).toInt ≤ 80) ∧ (∀ k : Nat, k < 80 → 0 ≤ (σ 10 k).toInt ∧ (σ 10 k).toInt ≤ 255) ∧ (∀ k : Nat, k < 8 → 0 ≤ (σ 11 k).toInt ∧ (σ 11 k).toInt ≤ 3) := id hI9
  obtain ⟨i10, i11, i12, w13⟩ : (1 ≤ (σ 16 0).toInt ∧ (σ 16 0).toInt ≤ 8) ∧ (1 ≤ (σ 16 1).toInt ∧ (σ 16 1).toInt ≤ 12) ∧ (0 ≤ (σ 16 2).toInt ∧ (σ 16 2).toInt ≤ 999) ∧ (∀ k : Nat, k < 8 → 0 ≤ (σ 17 k).toInt ∧ (σ 17 k).toInt ≤ 3) := id hI16
  obtain ⟨i14, i15, w16⟩ : (0 ≤ (σ 38 0).toInt ∧ (σ 38 0).toInt ≤ 20) ∧ (0 ≤ (σ 38 1).toInt ∧ (σ 38 1).toInt ≤ 1000) ∧ (∀ k : Nat, k < 20 → 0 ≤ (σ 39 k).toInt ∧ (σ 39 k).toInt ≤ 6) := id hI38
  obtain ⟨i17, w18, w19⟩ : (0 ≤ (σ 47 0).toInt ∧ (σ 47 0).toInt ≤ 12) ∧ (∀ k : Nat, k < 12 → 0 ≤ (σ 48 k).toInt ∧ (σ 48 k).toInt ≤ 3) ∧ (∀ k : Nat, k < 12 → 0 ≤ (σ 49 k).toInt ∧ (σ 49 k).toInt ≤ 1) := id hI47
  have w20 : ∀ k : Nat, k < 6 → 0 ≤ (σ 52 k).toInt ∧ (σ 52 k).toInt ≤ 60 := hI50
  have i21 : 1 ≤ (σ 26 6).toInt ∧ (σ 26 6).toInt ≤ 8000 := hI26
  obtain ⟨i22, i23, i24, w25, w26, w27, w28⟩ : (0 ≤ (σ 55 5).toInt) ∧ ((σ 55 5).toInt ≤ (σ 55 4).toInt) ∧ ((σ 55 4).toInt ≤ 40) ∧ (∀ k : Nat, k < 68 → (-200) ≤ (σ 56 k).toInt ∧ (σ 56 k).toInt ≤ 500) ∧ (∀ k : Nat, k < 40 → 0 ≤ (σ 57 k).toInt ∧ (σ 57 k).toInt ≤ 67) ∧ (∀ k : Nat, k < 40 → (-200) ≤ (σ 58 k).toInt ∧ (σ 58 k).toInt ≤ 500) ∧ (∀ k : Nat, k < 40 → (-200) ≤ (σ 59 k).toInt ∧ (σ 59 k).toInt ≤ 500) := id hI101
  obtain ⟨i29, w30, w31⟩ : (0 ≤ (σ 55 6).toInt ∧ (σ 55 6).toInt ≤ 4) ∧ (∀ k : Nat, k < 4 → 0 ≤ (σ 60 k).toInt ∧ (σ 60 k).toInt ≤ 50) ∧ (∀ k : Nat, k < 4 → 0 ≤ (σ 61 k).toInt ∧ (σ 61 k).toInt ≤ 20) := id hI102
  have i32 : 0 ≤ (σ 55 9).toInt ∧ (σ 55 9).toInt ≤ 3 := hI103
  obtain ⟨i33, i34, i35, w36, w37⟩ : (1 ≤ (σ 55 10).toInt ∧ (σ 55 10).toInt ≤ 8) ∧ (1 ≤ (σ 55 12).toInt ∧ (σ 55 12).toInt ≤ 12) ∧ (0 ≤ (σ 55 13).toInt ∧ (σ 55 13).toInt ≤ 999) ∧ (∀ k : Nat, k < 8 → 0 ≤ (σ 62 k).toInt ∧ (σ 62 k).toInt ≤ 3) ∧ (∀ k : Nat, k < 8 → 0 ≤ (σ 67 k).toInt ∧ (σ 67 k).toInt ≤ 3) := id hI104
  obtain ⟨i38, w39⟩ : (0 ≤ (σ 55 15).toInt ∧ (σ 55 15).toInt ≤ 80) ∧ (∀ k : Nat, k < 2 → (-1) ≤ (σ 65 k).toInt ∧ (σ 65 k).toInt ≤ 80) := id hI105
  obtain ⟨i40, w41, w42, w43⟩ : (0 ≤ (σ 55 32).toInt ∧ (σ 55 32).toInt ≤ 20) ∧ (∀ k : Nat, k < 20 → 0 ≤ (σ 70 k).toInt ∧ (σ 70 k).toInt ≤ 6) ∧ (∀ k : Nat, k < 20 → 0 ≤ (σ 71 k).toInt ∧ (σ 71 k).toInt ≤ 8) ∧ (∀ k : Nat, k < 160 → 0 ≤ (σ 72 k).toInt ∧ (σ 72 k).toInt ≤ 3) := id hI106
  obtain ⟨i44, i45, w46⟩ : (0 ≤ (σ 55 47).toInt ∧ (σ 55 47).toInt ≤ 12) ∧ ((σ 55 47).toInt ≤ (σ 55 12).toInt) ∧ (∀ k : Nat, k < 12 → 0 ≤ (σ 80 k).toInt ∧ (σ 80 k).toInt ≤ 3) := id hI107
  have hs_jOk3 : jOk3 σ := hr0.ok hr1.1
  refine lv_aload_n hx hb dL_law_526 rfl (lv_at hl 2 rfl) ?_
  refine lv_aload_n hx hb dL_law_527 rfl (lv_at hl 3 rfl) ?_
  refine lv_iload_n hx hb dL_law_528 rfl (lv_at hl 0 rfl) ?_
  refine lv_iconst (v := 1) hx hb dL_law_529 (by decide) ?_
  have g47 := jrg (rfl : x0.toInt = x0.toInt)
  refine lv_iadd hx hb dL_law_530 ?_
  refine lv_topi (fun x48 ex48 => ?_)
  have tx48 : x48.toInt = x0.toInt + 1 := (jadd ex48 rfl jz_1 (by omega) (by omega)).trans (by omega)
  refine va_sld hx hb hX hbl hbA hS (jin tx48 (by omega) (by omega)) dL_law_531 ?_
  have g49 := jrg (rfl : (xs x48.toNatClampNeg).toInt = (xs x48.toNatClampNeg).toInt)
  refine jcallV (As := [.int (xs x48.toNatClampNeg)]) (rest := []) ⟨hx, hb, hml, hown, hts⟩ hK hP hA hS hZ (c_X11_puts l D cI cL ad zz hJ σ τ (xs x48.toNatClampNeg) ((xs x48.toNatClampNeg).toInt) rfl hI2 hI16 hI18 hI22 hI31 hI38 hI47 hI26 hs_jN67 hs_jBl hs_jKb hs_jKh hs_jKg) cw_RL_57 (jc_0 cI cL ad σ τ) rfl ⟨Nat.le_of_ble_eq_true rfl, Nat.le_of_ble_eq_true rfl⟩ rfl rfl rfl hl.1 rfl (Nat.le_of_ble_eq_true rfl) dL_law_532 ⟨Nat.le_of_ble_eq_true rfl, Nat.le_of_ble_eq_true rfl⟩ (fun r51 σ50 τ50 H locs h50 hP hS => ?_)
  obtain ⟨rfl, f52, f53, I54, p55, p56, p57, p58, p59, h50⟩ := h50
  refine lv_pop hx hb dL_law_535 rfl ?_
  refine lv_aload_n hx hb dL_law_536 rfl (lv_at hl 1 rfl) ?_
  refine lv_aload_n hx hb dL_law_537 rfl (lv_at hl 3 rfl) ?_
  refine lv_iload_n hx hb dL_law_538 rfl (lv_at hl 0 rfl) ?_
  refine lv_iconst (v := 1) hx hb dL_law_539 (by decide) ?_
  refine lv_iadd hx hb dL_law_540 ?_
  refine jtopr ex48.symm ?_
  refine va_sld hx hb hX hbl hbA hS (jin tx48 (by omega) (by omega)) dL_law_541 ?_
  have I61 : jI101 σ50 := jI101_fr (congrFun (f52 55 (by decide)) 4) (congrFun (f52 55 (by decide)) 5) (f52 56 (by decide)) (f52 57 (by decide)) (f52 58 (by decide)) (f52 59 (by decide)) hI101
  have I62 : jI102 σ50 := jI102_fr (congrFun (f52 55 (by decide)) 6) (f52 60 (by decide)) (f52 61 (by decide)) hI102
  have I63 : jI103 σ50 := jI103_fr (congrFun (f52 55 (by decide)) 9) hI103
  have I64 : jI104 σ50 := jI104_fr (congrFun (f52 55 (by decide)) 10) (congrFun (f52 55 (by decide)) 12) (congrFun (f52 55 (by decide)) 13) (f52 62 (by decide)) (f52 67 (by decide)) hI104
  have I65 : jI105 σ50 := jI105_fr (congrFun (f52 55 (by decide)) 15) (f52 65 (by decide)) hI105
  have I66 : jI106 σ50 := jI106_fr (congrFun (f52 55 (by decide)) 32) (f52 70 (by decide)) (f52 71 (by decide)) (f52 72 (by decide)) hI106
  have I67 : jI107 σ50 := jI107_fr (congrFun (f52 55 (by decide)) 12) (congrFun (f52 55 (by decide)) 47) (f52 80 (by decide)) hI107
  have I68 : jI119 σ50 := jI119_fr (f52 68 (by decide)) hI119
  have p69 : jKept σ50 := jKept.fr (f52 75 (by decide)) (f52 76 (by decide)) (f52 77 (by decide)) hs_jKept
  have p70 : jBook σ50 := jBook.fr (congrFun (f52 55 (by decide)) 47) (congrFun (f52 55 (by decide)) 10) (f52 81 (by decide)) hs_jBook
  have p71 : jTR σ50 := jTR.fr (f52 64 (by decide)) (f52 65 (by decide)) hs_jTR
  refine jcallV (As := [.int (xs x48.toNatClampNeg)]) (rest := []) ⟨hx, hb, hml, hown, hts⟩ hK hP hA hS hZ (c_X12_puts l D cI cL ad zz hJ σ50 τ (xs x48.toNatClampNeg) ((xs x48.toNatClampNeg).toInt) rfl I61 I62 I63 I64 I65 I66 I67 I68 p69 p70 p71) cw_RL_60 (jc_55 cI cL ad σ50 τ) rfl ⟨Nat.le_of_ble_eq_true rfl, Nat.le_of_ble_eq_true rfl⟩ rfl rfl rfl hl.1 rfl (Nat.le_of_ble_eq_true rfl) dL_law_542 ⟨Nat.le_of_ble_eq_true rfl, Nat.le_of_ble_eq_true rfl⟩ (fun r73 σ72 τ72 H locs h72 hP hS => ?_)
  obtain ⟨rfl, f74, f75, I76, p77, p78, p79, h72⟩ := h72
  refine lv_pop hx hb dL_law_545 rfl ?_
  refine lv_goto (tgt := 1357) hx hb dL_law_546 (by decide) ?_
  obtain ⟨x81, ex81⟩ : ∃ y : Int32, y = x0 + 6 := ⟨_, rfl⟩
  have tx81 : x81.toInt = x0.toInt + 6 := (jadd ex81 rfl jz_6 (by omega) (by omega)).trans (by omega)
  refine lv_iinc (v := x81) (lv' := [(3, .int x81), (2, .ref (ad 55)), (1, .ref (ad 0)), (0, .ref b)]) hx hb dL_law_1357 hl (k := 0) rfl (by rw [ex81]; rfl) (by decide) rfl (fun ls hl => ?_)
  refine lv_goto (tgt := 18) hx hb dL_law_1360 (by decide) ?_
  have I82 : jI2 σ72 := jI2_fr ((congrFun (f74 2 (by decide)) 0).trans (congrFun (f52 2 (by decide)) 0)) ((congrFun (f74 2 (by decide)) 1).trans (congrFun (f52 2 (by decide)) 1)) ((congrFun (f74 2 (by decide)) 2).trans (congrFun (f52 2 (by decide)) 2)) ((congrFun (f74 2 (by decide)) 3).trans (congrFun (f52 2 (by decide)) 3)) ((f74 6 (by decide)).trans (f52 6 (by decide))) hI2
  have I83 : jI9 σ72 := jI9_fr ((congrFun (f74 9 (by decide)) 0).trans (congrFun (f52 9 (by decide)) 0)) ((f74 10 (by decide)).trans (f52 10 (by decide))) ((f74 11 (by decide)).trans (f52 11 (by decide))) hI9
  have I84 : jI12 σ72 := jI12_fr ((congrFun (f74 12 (by decide)) 0).trans (congrFun (f52 12 (by decide)) 0)) ((f74 13 (by decide)).trans (f52 13 (by decide))) hI12
  have I85 : jI16 σ72 := jI16_fr ((congrFun (f74 16 (by decide)) 0).trans (congrFun (f52 16 (by decide)) 0)) ((congrFun (f74 16 (by decide)) 1).trans (congrFun (f52 16 (by decide)) 1)) ((congrFun (f74 16 (by decide)) 2).trans (congrFun (f52 16 (by decide)) 2)) ((f74 17 (by decide)).trans (f52 17 (by decide))) hI16
  have I86 : jI18 σ72 := jI18_fr ((congrFun (f74 18 (by decide)) 0).trans (congrFun (f52 18 (by decide)) 0)) ((f74 19 (by decide)).trans (f52 19 (by decide))) hI18
  have I87 : jI22 σ72 := jI22_fr ((congrFun (f74 22 (by decide)) 0).trans (congrFun (f52 22 (by decide)) 0)) ((f74 23 (by decide)).trans (f52 23 (by decide))) hI22
  have I88 : jI31 σ72 := jI31_fr (congrFun (f74 31 (by decide)) 8) (congrFun (f74 31 (by decide)) 10) (congrFun (f74 31 (by decide)) 11) (f74 33 (by decide)) (f74 35 (by decide)) (f74 36 (by decide)) I54
  have I89 : jI38 σ72 := jI38_fr ((congrFun (f74 38 (by decide)) 0).trans (congrFun (f52 38 (by decide)) 0)) ((congrFun (f74 38 (by decide)) 1).trans (congrFun (f52 38 (by decide)) 1)) ((f74 39 (by decide)).trans (f52 39 (by decide))) hI38
  have I90 : jI43 σ72 := jI43_fr ((congrFun (f74 43 (by decide)) 8).trans (congrFun (f52 43 (by decide)) 8)) hI43
  have I91 : jI47 σ72 := jI47_fr ((congrFun (f74 47 (by decide)) 0).trans (congrFun (f52 47 (by decide)) 0)) ((f74 48 (by decide)).trans (f52 48 (by decide))) ((f74 49 (by decide)).trans (f52 49 (by decide))) hI47
  have I92 : jI50 σ72 := jI50_fr ((f74 52 (by decide)).trans (f52 52 (by decide))) hI50
  have I93 : jI0 σ72 := jI0_fr ((f74 1 (by decide)).trans (f52 1 (by decide))) hI0
  have I94 : jI26 σ72 := jI26_fr ((congrFun (f74 26 (by decide)) 6).trans (congrFun (f52 26 (by decide)) 6)) hI26
  have I95 : jI101 σ72 := jI101_fr (f75 4 (by decide)) (f75 5 (by decide)) (f74 56 (by decide)) (f74 57 (by decide)) (f74 58 (by decide)) (f74 59 (by decide)) I61
  have I96 : jI102 σ72 := jI102_fr (f75 6 (by decide)) (f74 60 (by decide)) (f74 61 (by decide)) I62
  have I97 : jI103 σ72 := jI103_fr (f75 9 (by decide)) I63
  have I98 : jI104 σ72 := jI104_fr (f75 10 (by decide)) (f75 12 (by decide)) (f75 13 (by decide)) (f74 62 (by decide)) (f74 67 (by decide)) I64
  have I99 : jI105 σ72 := jI105_fr (f75 15 (by decide)) (f74 65 (by decide)) I65
  have I100 : jI106 σ72 := jI106_fr (f75 32 (by decide)) (f74 70 (by decide)) (f74 71 (by decide)) (f74 72 (by decide)) I66
  have I101 : jI107 σ72 := jI107_fr (f75 12 (by decide)) (f75 47 (by decide)) (f74 80 (by decide)) I67
  have I102 : jI109 σ72 := jI109_fr ((f75 50 (by decide)).trans (congrFun (f52 55 (by decide)) 50)) hI109
  have I103 : jI110 σ72 := jI110_fr ((f74 86 (by decide)).trans (f52 86 (by decide))) ((f74 87 (by decide)).trans (f52 87 (by decide))) hI110
  have I104 : jI111 σ72 := jI111_fr ((f74 79 (by decide)).trans (f52 79 (by decide))) hI111
  have p105 : jNd12 σ72 := jNd12.fr ((congrFun (f74 12 (by decide)) 0).trans (congrFun (f52 12 (by decide)) 0)) ((congrFun (f74 12 (by decide)) 1).trans (congrFun (f52 12 (by decide)) 1)) ((f74 13 (by decide)).trans (f52 13 (by decide))) hs_jNd12
  have p106 : jN67 σ72 := jN67.fr (f74 24 (by decide)) p55
  have p107 : jBl σ72 := jBl.fr (congrFun (f74 22 (by decide)) 0) (congrFun (f74 22 (by decide)) 1) (f74 23 (by decide)) (congrFun (f74 26 (by decide)) 6) (congrFun (f74 26 (by decide)) 7) (f74 29 (by decide)) (f74 30 (by decide)) p56
  have p108 : jKb σ72 := jKb.fr (congrFun (f74 31 (by decide)) 8) (congrFun (f74 31 (by decide)) 11) (f74 32 (by decide)) p57
  have p109 : jKh σ72 := jKh.fr (congrFun (f74 31 (by decide)) 8) (f74 32 (by decide)) (f74 36 (by decide)) (f74 37 (by decide)) p58
  have p110 : jKg σ72 := jKg.fr (congrFun (f74 31 (by decide)) 8) (congrFun (f74 31 (by decide)) 9) (congrFun (f74 31 (by decide)) 11) (congrFun (f74 31 (by decide)) 12) (f74 32 (by decide)) (f74 33 (by decide)) p59
  have z111 : (σ72 2 0).toInt = (σ 2 0).toInt := (congrArg Int32.toInt (show σ72 2 0 = (σ 2 0) from ((congrFun (f74 2 (by decide)) 0).trans (congrFun (f52 2 (by decide)) 0))))
  have z112 : (σ72 55 6).toInt = (σ 55 6).toInt := (congrArg Int32.toInt (show σ72 55 6 = (σ 55 6) from ((f75 6 (by decide)).trans (congrFun (f52 55 (by decide)) 6))))
  have z113 : (σ72 2 2).toInt = (σ 2 2).toInt := (congrArg Int32.toInt (show σ72 2 2 = (σ 2 2) from ((congrFun (f74 2 (by decide)) 2).trans (congrFun (f52 2 (by decide)) 2))))
  have z114 : (σ72 55 5).toInt = (σ 55 5).toInt := (congrArg Int32.toInt (show σ72 55 5 = (σ 55 5) from ((f75 5 (by decide)).trans (congrFun (f52 55 (by decide)) 5))))
  have z115 : (σ72 2 3).toInt = (σ 2 3).toInt := (congrArg Int32.toInt (show σ72 2 3 = (σ 2 3) from ((congrFun (f74 2 (by decide)) 3).trans (congrFun (f52 2 (by decide)) 3))))
  have z116 : (σ72 55 4).toInt = (σ 55 4).toInt := (congrArg Int32.toInt (show σ72 55 4 = (σ 55 4) from ((f75 4 (by decide)).trans (congrFun (f52 55 (by decide)) 4))))
  have z117 : (σ72 9 0).toInt = (σ 9 0).toInt := (congrArg Int32.toInt (show σ72 9 0 = (σ 9 0) from ((congrFun (f74 9 (by decide)) 0).trans (congrFun (f52 9 (by decide)) 0))))
  have z118 : (σ72 55 15).toInt = (σ 55 15).toInt := (congrArg Int32.toInt (show σ72 55 15 = (σ 55 15) from ((f75 15 (by decide)).trans (congrFun (f52 55 (by decide)) 15))))
  have z119 : (σ72 16 0).toInt = (σ 16 0).toInt := (congrArg Int32.toInt (show σ72 16 0 = (σ 16 0) from ((congrFun (f74 16 (by decide)) 0).trans (congrFun (f52 16 (by decide)) 0))))
  have z120 : (σ72 55 10).toInt = (σ 55 10).toInt := (congrArg Int32.toInt (show σ72 55 10 = (σ 55 10) from ((f75 10 (by decide)).trans (congrFun (f52 55 (by decide)) 10))))
  have z121 : (σ72 16 1).toInt = (σ 16 1).toInt := (congrArg Int32.toInt (show σ72 16 1 = (σ 16 1) from ((congrFun (f74 16 (by decide)) 1).trans (congrFun (f52 16 (by decide)) 1))))
  have z122 : (σ72 55 12).toInt = (σ 55 12).toInt := (congrArg Int32.toInt (show σ72 55 12 = (σ 55 12) from ((f75 12 (by decide)).trans (congrFun (f52 55 (by decide)) 12))))
  have z123 : (σ72 16 2).toInt = (σ 16 2).toInt := (congrArg Int32.toInt (show σ72 16 2 = (σ 16 2) from ((congrFun (f74 16 (by decide)) 2).trans (congrFun (f52 16 (by decide)) 2))))
  have z124 : (σ72 55 13).toInt = (σ 55 13).toInt := (congrArg Int32.toInt (show σ72 55 13 = (σ 55 13) from ((f75 13 (by decide)).trans (congrFun (f52 55 (by decide)) 13))))
  have z125 : (σ72 38 0).toInt = (σ 38 0).toInt := (congrArg Int32.toInt (show σ72 38 0 = (σ 38 0) from ((congrFun (f74 38 (by decide)) 0).trans (congrFun (f52 38 (by decide)) 0))))
  have z126 : (σ72 55 32).toInt = (σ 55 32).toInt := (congrArg Int32.toInt (show σ72 55 32 = (σ 55 32) from ((f75 32 (by decide)).trans (congrFun (f52 55 (by decide)) 32))))
  have z127 : (σ72 38 1).toInt = (σ 38 1).toInt := (congrArg Int32.toInt (show σ72 38 1 = (σ 38 1) from ((congrFun (f74 38 (by decide)) 1).trans (congrFun (f52 38 (by decide)) 1))))
  have z128 : (σ72 55 55).toInt = (σ 55 55).toInt := (congrArg Int32.toInt (show σ72 55 55 = (σ 55 55) from ((f75 55 (by decide)).trans (congrFun (f52 55 (by decide)) 55))))
  have z129 : (σ72 47 0).toInt = (σ 47 0).toInt := (congrArg Int32.toInt (show σ72 47 0 = (σ 47 0) from ((congrFun (f74 47 (by decide)) 0).trans (congrFun (f52 47 (by decide)) 0))))
  have z130 : (σ72 55 47).toInt = (σ 55 47).toInt := (congrArg Int32.toInt (show σ72 55 47 = (σ 55 47) from ((f75 47 (by decide)).trans (congrFun (f52 55 (by decide)) 47))))
  have z131 : (σ72 55 30).toInt = (σ 55 30).toInt := (congrArg Int32.toInt (show σ72 55 30 = (σ 55 30) from ((f75 30 (by decide)).trans (congrFun (f52 55 (by decide)) 30))))
  have z132 : (σ72 55 31).toInt = (σ 55 31).toInt := (congrArg Int32.toInt (show σ72 55 31 = (σ 55 31) from ((f75 31 (by decide)).trans (congrFun (f52 55 (by decide)) 31))))
  have z133 : (σ72 2 1).toInt = (σ 2 1).toInt := (congrArg Int32.toInt (show σ72 2 1 = (σ 2 1) from ((congrFun (f74 2 (by decide)) 1).trans (congrFun (f52 2 (by decide)) 1))))
  have z134 : (σ72 55 9).toInt = (σ 55 9).toInt := (congrArg Int32.toInt (show σ72 55 9 = (σ 55 9) from ((f75 9 (by decide)).trans (congrFun (f52 55 (by decide)) 9))))
  have z135 : (σ72 26 6).toInt = (σ 26 6).toInt := (congrArg Int32.toInt (show σ72 26 6 = (σ 26 6) from ((congrFun (f74 26 (by decide)) 6).trans (congrFun (f52 26 (by decide)) 6))))
  have z137 : (σ72 18 0).toInt = (σ 18 0).toInt := (congrArg Int32.toInt (show σ72 18 0 = (σ 18 0) from ((congrFun (f74 18 (by decide)) 0).trans (congrFun (f52 18 (by decide)) 0))))
  have z138 : (σ72 22 0).toInt = (σ 22 0).toInt := (congrArg Int32.toInt (show σ72 22 0 = (σ 22 0) from ((congrFun (f74 22 (by decide)) 0).trans (congrFun (f52 22 (by decide)) 0))))
  exact ih x81 σ72 τ _ _ ls (by have h9 := tx81; omega) ⟨I82, I83, I84, I85, I86, I87, I88, I89, I90, I91, I92, I93, I94, I95, I96, I97, I98, I99, I100, I101, I102, I103, I104, I76, p77, p78, p105, p106, p107, p108, p79, p109, p110, (by omega), (by omega), (by omega), (by omega), (by omega), (by omega), (by omega), (by omega), (by omega), (by omega), (by omega), (by omega), (by omega), (by have h9 := tx81; omega), (show jNumP (σ72 3) (σ72 56) (σ72 6) (σ72 57) (σ72 7) (σ72 58) (σ72 8) (σ72 59) (σ72 55 6).toInt (σ72 55 4).toInt by rw [show σ72 3 = σ 3 from ((f74 3 (by decide)).trans (f52 3 (by decide))), show σ72 56 = σ 56 from ((f74 56 (by decide)).trans (f52 56 (by decide))), show σ72 6 = σ 6 from ((f74 6 (by decide)).trans (f52 6 (by decide))), show σ72 57 = σ 57 from ((f74 57 (by decide)).trans (f52 57 (by decide))), show σ72 7 = σ 7 from ((f74 7 (by decide)).trans (f52 7 (by decide))), show σ72 58 = σ 58 from ((f74 58 (by decide)).trans (f52 58 (by decide))), show σ72 8 = σ 8 from ((f74 8 (by decide)).trans (f52 8 (by decide))), show σ72 59 = σ 59 from ((f74 59 (by decide)).trans (f52 59 (by decide))), show (σ72 55 6).toInt = (σ 55 6).toInt from by omega, show (σ72 55 4).toInt = (σ 55 4).toInt from by omega]; exact hr0), (show jOvP (σ72 56) (σ72 57) (σ72 58) (σ72 59) (σ72 55 4).toInt by rw [show σ72 56 = σ 56 from ((f74 56 (by decide)).trans (f52 56 (by decide))), show σ72 57 = σ 57 from ((f74 57 (by decide)).trans (f52 57 (by decide))), show σ72 58 = σ 58 from ((f74 58 (by decide)).trans (f52 58 (by decide))), show σ72 59 = σ 59 from ((f74 59 (by decide)).trans (f52 59 (by decide))), show (σ72 55 4).toInt = (σ 55 4).toInt from by omega]; exact hr1), (show jTp (σ72 10) (σ72 63) (σ72 55 15).toInt by rw [show σ72 10 = σ 10 from ((f74 10 (by decide)).trans (f52 10 (by decide))), show σ72 63 = σ 63 from ((f74 63 (by decide)).trans (f52 63 (by decide)))]; exact hr2.le (by omega)), (show jSo (σ72 17) (σ72 62) (σ72 16 0).toInt by rw [show σ72 17 = σ 17 from ((f74 17 (by decide)).trans (f52 17 (by decide))), show σ72 62 = σ 62 from ((f74 62 (by decide)).trans (f52 62 (by decide))), show (σ72 16 0).toInt = (σ 16 0).toInt from by omega]; exact hr3), (show jShP (σ72 51) (σ72 52) (σ72 53) (σ72 86) (σ72 87) (σ72 55 32).toInt by rw [show σ72 51 = σ 51 from ((f74 51 (by decide)).trans (f52 51 (by decide))), show σ72 52 = σ 52 from ((f74 52 (by decide)).trans (f52 52 (by decide))), show σ72 53 = σ 53 from ((f74 53 (by decide)).trans (f52 53 (by decide))), show σ72 86 = σ 86 from ((f74 86 (by decide)).trans (f52 86 (by decide))), show σ72 87 = σ 87 from ((f74 87 (by decide)).trans (f52 87 (by decide)))]; exact (hr4.up (by omega) (by omega))), (show jEl (σ72 51) (σ72 52) (τ 54) (τ 88) by rw [show σ72 51 = σ 51 from ((f74 51 (by decide)).trans (f52 51 (by decide))), show σ72 52 = σ 52 from ((f74 52 (by decide)).trans (f52 52 (by decide)))]; exact hr5), (show jByP (σ72 51) (σ72 52) (τ 54) by rw [show σ72 51 = σ 51 from ((f74 51 (by decide)).trans (f52 51 (by decide))), show σ72 52 = σ 52 from ((f74 52 (by decide)).trans (f52 52 (by decide)))]; exact hr6), (show jBk (σ72 48) (σ72 80) (σ72 49) (σ72 81) (σ72 55 47).toInt by rw [show σ72 48 = σ 48 from ((f74 48 (by decide)).trans (f52 48 (by decide))), show σ72 49 = σ 49 from ((f74 49 (by decide)).trans (f52 49 (by decide))), show σ72 80 = σ 80 from ((f74 80 (by decide)).trans (f52 80 (by decide))), show σ72 81 = σ 81 from ((f74 81 (by decide)).trans (f52 81 (by decide))), show (σ72 55 47).toInt = (σ 55 47).toInt from by omega]; exact hr7), (show jKd (σ72 39) (σ72 70) (σ72 55 32).toInt by rw [show σ72 39 = σ 39 from ((f74 39 (by decide)).trans (f52 39 (by decide))), show σ72 70 = σ 70 from ((f74 70 (by decide)).trans (f52 70 (by decide))), show (σ72 55 32).toInt = (σ 55 32).toInt from by omega]; exact hr8), (show jTt (σ72 42) (σ72 85) (σ72 55 55).toInt by rw [show σ72 42 = σ 42 from ((f74 42 (by decide)).trans (f52 42 (by decide))), show σ72 85 = σ 85 from ((f74 85 (by decide)).trans (f52 85 (by decide))), show (σ72 55 55).toInt = (σ 55 55).toInt from by omega]; exact hr9), (fun k hk => by rw [show σ72 4 = σ 4 from ((f74 4 (by decide)).trans (f52 4 (by decide))), show σ72 5 = σ 5 from ((f74 5 (by decide)).trans (f52 5 (by decide))), show σ72 60 = σ 60 from ((f74 60 (by decide)).trans (f52 60 (by decide))), show σ72 61 = σ 61 from ((f74 61 (by decide)).trans (f52 61 (by decide)))]; exact hr10 k (by omega)), (fun nm => by rw [show σ72 19 = σ 19 from ((f74 19 (by decide)).trans (f52 19 (by decide))), show σ72 64 = σ 64 from ((f74 64 (by decide)).trans (f52 64 (by decide))), show σ72 65 = σ 65 from ((f74 65 (by decide)).trans (f52 65 (by decide))), show (σ72 18 0).toInt = (σ 18 0).toInt from by omega]; exact hr11 nm), (fun nm => by rw [show σ72 23 = σ 23 from ((f74 23 (by decide)).trans (f52 23 (by decide))), show σ72 64 = σ 64 from ((f74 64 (by decide)).trans (f52 64 (by decide))), show σ72 65 = σ 65 from ((f74 65 (by decide)).trans (f52 65 (by decide))), show (σ72 22 0).toInt = (σ 22 0).toInt from by omega]; exact hr12 nm)⟩ hP hS (lv_sub hl [0, 1, 2, 3] rfl)
set_option maxHeartbeats 4000000 in
set_option maxRecDepth 100000 in
theorem law_case_11 {p : Program} {e : Env} {s : State} {m : MethodId} {below : List Frame} {meth : Method} {c : Code} (l : Launch) {b L : Nat} {xs : Nat → Int32} {D : va_G} {cI cL : ClassId} {ad zz : Nat → Nat} (C0 : lw_At p s m meth c b L xs) (hJ : jD ad) (hA : ∀ q, jA ad q → s.heap.size ≤ q) (hK : jK D cI cL s) (hZ : jZ zz (fun q : Nat => s.heap.size ≤ q) s s.heap) {x0 : Int32} (hx0 : 0 ≤ x0.toInt) (hxL : x0.toInt + 6 ≤ (L : Int)) (hL : L ≤ 384) {σ : Nat → Nat → Int32} {τ : Nat → Nat → Int64} {H : Heap} {locs : List Loc} (hS : va_S (fun q : Nat => s.heap.size ≤ q) s.heap H locs) {ls : Array Slot} (hAll : jAll x0.toInt σ τ) (hP : jH D cI cL ad σ τ H) (hl : lv_has ls 4 [(3, .int x0), (2, .ref (ad 55)), (1, .ref (ad 0)), (0, .ref b)]) (ih : ∀ (x1 : Int32) (σ : Nat → Nat → Int32) (τ : Nat → Nat → Int64) (H : Heap) (locs : List Loc) (ls : Array Slot), x1.toInt = x0.toInt + 6 → jAll x1.toInt σ τ → jH D cI cL ad σ τ H → va_S (fun q : Nat => s.heap.size ≤ q) s.heap H locs → lv_has ls 4 [(3, .int x1), (2, .ref (ad 55)), (1, .ref (ad 0)), (0, .ref b)] → W p l e room_1 s m #[Value.ref b] below meth c H locs 90 348600 (lw_Z below #[Value.ref b] s) (F0 m 18 ls [])) : W p l e room_1 s m #[Value.ref b] below meth c H locs 90 348600 (lw_Z below #[Value.ref b] s) (F0 m 549 ls []) := by
  obtain ⟨hx, hb, hr, hml, hown, hts0, hX, hbl, hlocks, hgv⟩ := C0
  have hts : ∀ w ∈ wsL_law, w.before #[Value.ref b] s = true := fun w h => hts0 w (wsL_law_in w h)
  have hbA : ¬ (fun q : Nat => s.heap.size ≤ q) b := Nat.not_le.mpr hbl
  have hown : s.vm.findClass RL = some m.cls := hown
  obtain ⟨hI2, hI9, hI12, hI16, hI18, hI22, hI31, hI38, hI43, hI47, hI50, hI0, hI26, hI101, hI102, hI103, hI104, hI105, hI106, hI107, hI109, hI110, hI111, hI119, hs_jKept, hs_jBook, hs_jNd12, hs_jN67, hs_jBl, hs_jKb, hs_jTR, hs_jKh, hs_jKg, ht0, ht1, ht2, ht3, ht4, ht5, ht6, ht7, ht8, ht9, ht10, ht11, ht12, ht13, hr0, hr1, hr2, hr3, hr4, hr5, hr6, hr7, hr8, hr9, hr10, hr11, hr12⟩ := hAll
  have hL9 : (L : Int) ≤ 384 := by omega
  obtain ⟨i1, i2, i3, i4, i5, w6⟩ : (0 ≤ (σ 2 0).toInt ∧ (σ 2 0).toInt ≤ 4) ∧ (0 ≤ (σ 2 1).toInt ∧ (σ 2 1).toInt ≤ 3) ∧ (0 ≤ (σ 2 2).toInt) ∧ (0 ≤ (σ 2 3).toInt) ∧ ((σ 2 2).toInt + (σ 2 3).toInt ≤ 40) ∧ (∀ k : Nat, k < 40 → 0 ≤ (σ 6 k).toInt ∧ (σ 6 k).toInt ≤ 67) := id hI2
  obtain ⟨i7, w8, w9⟩ : (0 ≤ (σ 9 0).toInt ∧ (σ 9 0).toInt ≤ 80) ∧ (∀ k : Nat, k < 80 → 0 ≤ (σ 10 k).toInt ∧ (σ 10 k).toInt ≤ 255) ∧ (∀ k : Nat, k < 8 → 0 ≤ (σ 11 k).toInt ∧ (σ 11 k).toInt ≤ 3) := id hI9
  obtain ⟨i10, i11, i12, w13⟩ : (1 ≤ (σ 16 0).toInt ∧ (σ 16 0).toInt ≤ 8) ∧ (1 ≤ (σ 16 1).toInt ∧ (σ 16 1).toInt ≤ 12) ∧ (0 ≤ (σ 16 2).toInt ∧ (σ 16 2).toInt ≤ 999) ∧ (∀ k : Nat, k < 8 → 0 ≤ (σ 17 k).toInt ∧ (σ 17 k).toInt ≤ 3) := id hI16
  obtain ⟨i14, i15, w16⟩ : (0 ≤ (σ 38 0).toInt ∧ (σ 38 0).toInt ≤ 20) ∧ (0 ≤ (σ 38 1).toInt ∧ (σ 38 1).toInt ≤ 1000) ∧ (∀ k : Nat, k < 20 → 0 ≤ (σ 39 k).toInt ∧ (σ 39 k).toInt ≤ 6) := id hI38
  obtain ⟨i17, w18, w19⟩ : (0 ≤ (σ 47 0).toInt ∧ (σ 47 0).toInt ≤ 12) ∧ (∀ k : Nat, k < 12 → 0 ≤ (σ 48 k).toInt ∧ (σ 48 k).toInt ≤ 3) ∧ (∀ k : Nat, k < 12 → 0 ≤ (σ 49 k).toInt ∧ (σ 49 k).toInt ≤ 1) := id hI47
  have w20 : ∀ k : Nat, k < 6 → 0 ≤ (σ 52 k).toInt ∧ (σ 52 k).toInt ≤ 60 := hI50
  have i21 : 1 ≤ (σ 26 6).toInt ∧ (σ 26 6).toInt ≤ 8000 := hI26
  obtain ⟨i22, i23, i24, w25, w26, w27, w28⟩ : (0 ≤ (σ 55 5).toInt) ∧ ((σ 55 5).toInt ≤ (σ 55 4).toInt) ∧ ((σ 55 4).toInt ≤ 40) ∧ (∀ k : Nat, k < 68 → (-200) ≤ (σ 56 k).toInt ∧ (σ 56 k).toInt ≤ 500) ∧ (∀ k : Nat, k < 40 → 0 ≤ (σ 57 k).toInt ∧ (σ 57 k).toInt ≤ 67) ∧ (∀ k : Nat, k < 40 → (-200) ≤ (σ 58 k).toInt ∧ (σ 58 k).toInt ≤ 500) ∧ (∀ k : Nat, k < 40 → (-200) ≤ (σ 59 k).toInt ∧ (σ 59 k).toInt ≤ 500) := id hI101
  obtain ⟨i29, w30, w31⟩ : (0 ≤ (σ 55 6).toInt ∧ (σ 55 6).toInt ≤ 4) ∧ (∀ k : Nat, k < 4 → 0 ≤ (σ 60 k).toInt ∧ (σ 60 k).toInt ≤ 50) ∧ (∀ k : Nat, k < 4 → 0 ≤ (σ 61 k).toInt ∧ (σ 61 k).toInt ≤ 20) := id hI102
  have i32 : 0 ≤ (σ 55 9).toInt ∧ (σ 55 9).toInt ≤ 3 := hI103
  obtain ⟨i33, i34, i35, w36, w37⟩ : (1 ≤ (σ 55 10).toInt ∧ (σ 55 10).toInt ≤ 8) ∧ (1 ≤ (σ 55 12).toInt ∧ (σ 55 12).toInt ≤ 12) ∧ (0 ≤ (σ 55 13).toInt ∧ (σ 55 13).toInt ≤ 999) ∧ (∀ k : Nat, k < 8 → 0 ≤ (σ 62 k).toInt ∧ (σ 62 k).toInt ≤ 3) ∧ (∀ k : Nat, k < 8 → 0 ≤ (σ 67 k).toInt ∧ (σ 67 k).toInt ≤ 3) := id hI104
  obtain ⟨i38, w39⟩ : (0 ≤ (σ 55 15).toInt ∧ (σ 55 15).toInt ≤ 80) ∧ (∀ k : Nat, k < 2 → (-1) ≤ (σ 65 k).toInt ∧ (σ 65 k).toInt ≤ 80) := id hI105
  obtain ⟨i40, w41, w42, w43⟩ : (0 ≤ (σ 55 32).toInt ∧ (σ 55 32).toInt ≤ 20) ∧ (∀ k : Nat, k < 20 → 0 ≤ (σ 70 k).toInt ∧ (σ 70 k).toInt ≤ 6) ∧ (∀ k : Nat, k < 20 → 0 ≤ (σ 71 k).toInt ∧ (σ 71 k).toInt ≤ 8) ∧ (∀ k : Nat, k < 160 → 0 ≤ (σ 72 k).toInt ∧ (σ 72 k).toInt ≤ 3) := id hI106
  obtain ⟨i44, i45, w46⟩ : (0 ≤ (σ 55 47).toInt ∧ (σ 55 47).toInt ≤ 12) ∧ ((σ 55 47).toInt ≤ (σ 55 12).toInt) ∧ (∀ k : Nat, k < 12 → 0 ≤ (σ 80 k).toInt ∧ (σ 80 k).toInt ≤ 3) := id hI107
  have hs_jOk3 : jOk3 σ := hr0.ok hr1.1
  refine lv_aload_n hx hb dL_law_549 rfl (lv_at hl 2 rfl) ?_
  refine lv_aload_n hx hb dL_law_550 rfl (lv_at hl 3 rfl) ?_
  refine lv_iload_n hx hb dL_law_551 rfl (lv_at hl 0 rfl) ?_
  refine lv_iconst (v := 1) hx hb dL_law_552 (by decide) ?_
  have g47 := jrg (rfl : x0.toInt = x0.toInt)
  refine lv_iadd hx hb dL_law_553 ?_
  refine lv_topi (fun x48 ex48 => ?_)
  have tx48 : x48.toInt = x0.toInt + 1 := (jadd ex48 rfl jz_1 (by omega) (by omega)).trans (by omega)
  refine va_sld hx hb hX hbl hbA hS (jin tx48 (by omega) (by omega)) dL_law_554 ?_
  have g49 := jrg (rfl : (xs x48.toNatClampNeg).toInt = (xs x48.toNatClampNeg).toInt)
  refine jcallV (As := [.int (xs x48.toNatClampNeg)]) (rest := []) ⟨hx, hb, hml, hown, hts⟩ hK hP hA hS hZ (c_X11_mean l D cI cL ad zz hJ σ τ (xs x48.toNatClampNeg) ((xs x48.toNatClampNeg).toInt) rfl hI2 hI16 hI18 hI22 hI31 hI38 hI26 hs_jN67 hs_jBl hs_jKb hs_jKh hs_jKg) cw_RL_61 (jc_0 cI cL ad σ τ) rfl ⟨Nat.le_of_ble_eq_true rfl, Nat.le_of_ble_eq_true rfl⟩ rfl rfl rfl hl.1 rfl (Nat.le_of_ble_eq_true rfl) dL_law_555 ⟨Nat.le_of_ble_eq_true rfl, Nat.le_of_ble_eq_true rfl⟩ (fun r51 σ50 τ50 H locs h50 hP hS => ?_)
  obtain ⟨rfl, f52, f53, I54, p55, p56, p57, p58, p59, h50⟩ := h50
  refine lv_pop hx hb dL_law_558 rfl ?_
  refine lv_aload_n hx hb dL_law_559 rfl (lv_at hl 1 rfl) ?_
  refine lv_aload_n hx hb dL_law_560 rfl (lv_at hl 3 rfl) ?_
  refine lv_iload_n hx hb dL_law_561 rfl (lv_at hl 0 rfl) ?_
  refine lv_iconst (v := 1) hx hb dL_law_562 (by decide) ?_
  refine lv_iadd hx hb dL_law_563 ?_
  refine jtopr ex48.symm ?_
  refine va_sld hx hb hX hbl hbA hS (jin tx48 (by omega) (by omega)) dL_law_564 ?_
  have I61 : jI101 σ50 := jI101_fr (congrFun (f52 55 (by decide)) 4) (congrFun (f52 55 (by decide)) 5) (f52 56 (by decide)) (f52 57 (by decide)) (f52 58 (by decide)) (f52 59 (by decide)) hI101
  have I62 : jI102 σ50 := jI102_fr (congrFun (f52 55 (by decide)) 6) (f52 60 (by decide)) (f52 61 (by decide)) hI102
  have I63 : jI103 σ50 := jI103_fr (congrFun (f52 55 (by decide)) 9) hI103
  have I64 : jI104 σ50 := jI104_fr (congrFun (f52 55 (by decide)) 10) (congrFun (f52 55 (by decide)) 12) (congrFun (f52 55 (by decide)) 13) (f52 62 (by decide)) (f52 67 (by decide)) hI104
  have I65 : jI105 σ50 := jI105_fr (congrFun (f52 55 (by decide)) 15) (f52 65 (by decide)) hI105
  have I66 : jI106 σ50 := jI106_fr (congrFun (f52 55 (by decide)) 32) (f52 70 (by decide)) (f52 71 (by decide)) (f52 72 (by decide)) hI106
  have I67 : jI119 σ50 := jI119_fr (f52 68 (by decide)) hI119
  have p68 : jKept σ50 := jKept.fr (f52 75 (by decide)) (f52 76 (by decide)) (f52 77 (by decide)) hs_jKept
  have p69 : jTR σ50 := jTR.fr (f52 64 (by decide)) (f52 65 (by decide)) hs_jTR
  refine jcallV (As := [.int (xs x48.toNatClampNeg)]) (rest := []) ⟨hx, hb, hml, hown, hts⟩ hK hP hA hS hZ (c_X12_mean l D cI cL ad zz hJ σ50 τ (xs x48.toNatClampNeg) ((xs x48.toNatClampNeg).toInt) rfl I61 I62 I63 I64 I65 I66 I67 p68 p69) cw_RL_64 (jc_55 cI cL ad σ50 τ) rfl ⟨Nat.le_of_ble_eq_true rfl, Nat.le_of_ble_eq_true rfl⟩ rfl rfl rfl hl.1 rfl (Nat.le_of_ble_eq_true rfl) dL_law_565 ⟨Nat.le_of_ble_eq_true rfl, Nat.le_of_ble_eq_true rfl⟩ (fun r71 σ70 τ70 H locs h70 hP hS => ?_)
  obtain ⟨rfl, f72, f73, I74, p75, p76, h70⟩ := h70
  refine lv_pop hx hb dL_law_568 rfl ?_
  refine lv_goto (tgt := 1357) hx hb dL_law_569 (by decide) ?_
  obtain ⟨x78, ex78⟩ : ∃ y : Int32, y = x0 + 6 := ⟨_, rfl⟩
  have tx78 : x78.toInt = x0.toInt + 6 := (jadd ex78 rfl jz_6 (by omega) (by omega)).trans (by omega)
  refine lv_iinc (v := x78) (lv' := [(3, .int x78), (2, .ref (ad 55)), (1, .ref (ad 0)), (0, .ref b)]) hx hb dL_law_1357 hl (k := 0) rfl (by rw [ex78]; rfl) (by decide) rfl (fun ls hl => ?_)
  refine lv_goto (tgt := 18) hx hb dL_law_1360 (by decide) ?_
  have I79 : jI2 σ70 := jI2_fr ((congrFun (f72 2 (by decide)) 0).trans (congrFun (f52 2 (by decide)) 0)) ((congrFun (f72 2 (by decide)) 1).trans (congrFun (f52 2 (by decide)) 1)) ((congrFun (f72 2 (by decide)) 2).trans (congrFun (f52 2 (by decide)) 2)) ((congrFun (f72 2 (by decide)) 3).trans (congrFun (f52 2 (by decide)) 3)) ((f72 6 (by decide)).trans (f52 6 (by decide))) hI2
  have I80 : jI9 σ70 := jI9_fr ((congrFun (f72 9 (by decide)) 0).trans (congrFun (f52 9 (by decide)) 0)) ((f72 10 (by decide)).trans (f52 10 (by decide))) ((f72 11 (by decide)).trans (f52 11 (by decide))) hI9
  have I81 : jI12 σ70 := jI12_fr ((congrFun (f72 12 (by decide)) 0).trans (congrFun (f52 12 (by decide)) 0)) ((f72 13 (by decide)).trans (f52 13 (by decide))) hI12
  have I82 : jI16 σ70 := jI16_fr ((congrFun (f72 16 (by decide)) 0).trans (congrFun (f52 16 (by decide)) 0)) ((congrFun (f72 16 (by decide)) 1).trans (congrFun (f52 16 (by decide)) 1)) ((congrFun (f72 16 (by decide)) 2).trans (congrFun (f52 16 (by decide)) 2)) ((f72 17 (by decide)).trans (f52 17 (by decide))) hI16
  have I83 : jI18 σ70 := jI18_fr ((congrFun (f72 18 (by decide)) 0).trans (congrFun (f52 18 (by decide)) 0)) ((f72 19 (by decide)).trans (f52 19 (by decide))) hI18
  have I84 : jI22 σ70 := jI22_fr ((congrFun (f72 22 (by decide)) 0).trans (congrFun (f52 22 (by decide)) 0)) ((f72 23 (by decide)).trans (f52 23 (by decide))) hI22
  have I85 : jI31 σ70 := jI31_fr (congrFun (f72 31 (by decide)) 8) (congrFun (f72 31 (by decide)) 10) (congrFun (f72 31 (by decide)) 11) (f72 33 (by decide)) (f72 35 (by decide)) (f72 36 (by decide)) I54
  have I86 : jI38 σ70 := jI38_fr ((congrFun (f72 38 (by decide)) 0).trans (congrFun (f52 38 (by decide)) 0)) ((congrFun (f72 38 (by decide)) 1).trans (congrFun (f52 38 (by decide)) 1)) ((f72 39 (by decide)).trans (f52 39 (by decide))) hI38
  have I87 : jI43 σ70 := jI43_fr ((congrFun (f72 43 (by decide)) 8).trans (congrFun (f52 43 (by decide)) 8)) hI43
  have I88 : jI47 σ70 := jI47_fr ((congrFun (f72 47 (by decide)) 0).trans (congrFun (f52 47 (by decide)) 0)) ((f72 48 (by decide)).trans (f52 48 (by decide))) ((f72 49 (by decide)).trans (f52 49 (by decide))) hI47
  have I89 : jI50 σ70 := jI50_fr ((f72 52 (by decide)).trans (f52 52 (by decide))) hI50
  have I90 : jI0 σ70 := jI0_fr ((f72 1 (by decide)).trans (f52 1 (by decide))) hI0
  have I91 : jI26 σ70 := jI26_fr ((congrFun (f72 26 (by decide)) 6).trans (congrFun (f52 26 (by decide)) 6)) hI26
  have I92 : jI101 σ70 := jI101_fr (f73 4 (by decide)) (f73 5 (by decide)) (f72 56 (by decide)) (f72 57 (by decide)) (f72 58 (by decide)) (f72 59 (by decide)) I61
  have I93 : jI102 σ70 := jI102_fr (f73 6 (by decide)) (f72 60 (by decide)) (f72 61 (by decide)) I62
  have I94 : jI103 σ70 := jI103_fr (f73 9 (by decide)) I63
  have I95 : jI104 σ70 := jI104_fr (f73 10 (by decide)) (f73 12 (by decide)) (f73 13 (by decide)) (f72 62 (by decide)) (f72 67 (by decide)) I64
  have I96 : jI105 σ70 := jI105_fr (f73 15 (by decide)) (f72 65 (by decide)) I65
  have I97 : jI106 σ70 := jI106_fr (f73 32 (by decide)) (f72 70 (by decide)) (f72 71 (by decide)) (f72 72 (by decide)) I66
  have I98 : jI107 σ70 := jI107_fr ((f73 12 (by decide)).trans (congrFun (f52 55 (by decide)) 12)) ((f73 47 (by decide)).trans (congrFun (f52 55 (by decide)) 47)) ((f72 80 (by decide)).trans (f52 80 (by decide))) hI107
  have I99 : jI109 σ70 := jI109_fr ((f73 50 (by decide)).trans (congrFun (f52 55 (by decide)) 50)) hI109
  have I100 : jI110 σ70 := jI110_fr ((f72 86 (by decide)).trans (f52 86 (by decide))) ((f72 87 (by decide)).trans (f52 87 (by decide))) hI110
  have I101 : jI111 σ70 := jI111_fr ((f72 79 (by decide)).trans (f52 79 (by decide))) hI111
  have p102 : jBook σ70 := jBook.fr ((f73 47 (by decide)).trans (congrFun (f52 55 (by decide)) 47)) ((f73 10 (by decide)).trans (congrFun (f52 55 (by decide)) 10)) ((f72 81 (by decide)).trans (f52 81 (by decide))) hs_jBook
  have p103 : jNd12 σ70 := jNd12.fr ((congrFun (f72 12 (by decide)) 0).trans (congrFun (f52 12 (by decide)) 0)) ((congrFun (f72 12 (by decide)) 1).trans (congrFun (f52 12 (by decide)) 1)) ((f72 13 (by decide)).trans (f52 13 (by decide))) hs_jNd12
  have p104 : jN67 σ70 := jN67.fr (f72 24 (by decide)) p55
  have p105 : jBl σ70 := jBl.fr (congrFun (f72 22 (by decide)) 0) (congrFun (f72 22 (by decide)) 1) (f72 23 (by decide)) (congrFun (f72 26 (by decide)) 6) (congrFun (f72 26 (by decide)) 7) (f72 29 (by decide)) (f72 30 (by decide)) p56
  have p106 : jKb σ70 := jKb.fr (congrFun (f72 31 (by decide)) 8) (congrFun (f72 31 (by decide)) 11) (f72 32 (by decide)) p57
  have p107 : jKh σ70 := jKh.fr (congrFun (f72 31 (by decide)) 8) (f72 32 (by decide)) (f72 36 (by decide)) (f72 37 (by decide)) p58
  have p108 : jKg σ70 := jKg.fr (congrFun (f72 31 (by decide)) 8) (congrFun (f72 31 (by decide)) 9) (congrFun (f72 31 (by decide)) 11) (congrFun (f72 31 (by decide)) 12) (f72 32 (by decide)) (f72 33 (by decide)) p59
  have z109 : (σ70 2 0).toInt = (σ 2 0).toInt := (congrArg Int32.toInt (show σ70 2 0 = (σ 2 0) from ((congrFun (f72 2 (by decide)) 0).trans (congrFun (f52 2 (by decide)) 0))))
  have z110 : (σ70 55 6).toInt = (σ 55 6).toInt := (congrArg Int32.toInt (show σ70 55 6 = (σ 55 6) from ((f73 6 (by decide)).trans (congrFun (f52 55 (by decide)) 6))))
  have z111 : (σ70 2 2).toInt = (σ 2 2).toInt := (congrArg Int32.toInt (show σ70 2 2 = (σ 2 2) from ((congrFun (f72 2 (by decide)) 2).trans (congrFun (f52 2 (by decide)) 2))))
  have z112 : (σ70 55 5).toInt = (σ 55 5).toInt := (congrArg Int32.toInt (show σ70 55 5 = (σ 55 5) from ((f73 5 (by decide)).trans (congrFun (f52 55 (by decide)) 5))))
  have z113 : (σ70 2 3).toInt = (σ 2 3).toInt := (congrArg Int32.toInt (show σ70 2 3 = (σ 2 3) from ((congrFun (f72 2 (by decide)) 3).trans (congrFun (f52 2 (by decide)) 3))))
  have z114 : (σ70 55 4).toInt = (σ 55 4).toInt := (congrArg Int32.toInt (show σ70 55 4 = (σ 55 4) from ((f73 4 (by decide)).trans (congrFun (f52 55 (by decide)) 4))))
  have z115 : (σ70 9 0).toInt = (σ 9 0).toInt := (congrArg Int32.toInt (show σ70 9 0 = (σ 9 0) from ((congrFun (f72 9 (by decide)) 0).trans (congrFun (f52 9 (by decide)) 0))))
  have z116 : (σ70 55 15).toInt = (σ 55 15).toInt := (congrArg Int32.toInt (show σ70 55 15 = (σ 55 15) from ((f73 15 (by decide)).trans (congrFun (f52 55 (by decide)) 15))))
  have z117 : (σ70 16 0).toInt = (σ 16 0).toInt := (congrArg Int32.toInt (show σ70 16 0 = (σ 16 0) from ((congrFun (f72 16 (by decide)) 0).trans (congrFun (f52 16 (by decide)) 0))))
  have z118 : (σ70 55 10).toInt = (σ 55 10).toInt := (congrArg Int32.toInt (show σ70 55 10 = (σ 55 10) from ((f73 10 (by decide)).trans (congrFun (f52 55 (by decide)) 10))))
  have z119 : (σ70 16 1).toInt = (σ 16 1).toInt := (congrArg Int32.toInt (show σ70 16 1 = (σ 16 1) from ((congrFun (f72 16 (by decide)) 1).trans (congrFun (f52 16 (by decide)) 1))))
  have z120 : (σ70 55 12).toInt = (σ 55 12).toInt := (congrArg Int32.toInt (show σ70 55 12 = (σ 55 12) from ((f73 12 (by decide)).trans (congrFun (f52 55 (by decide)) 12))))
  have z121 : (σ70 16 2).toInt = (σ 16 2).toInt := (congrArg Int32.toInt (show σ70 16 2 = (σ 16 2) from ((congrFun (f72 16 (by decide)) 2).trans (congrFun (f52 16 (by decide)) 2))))
  have z122 : (σ70 55 13).toInt = (σ 55 13).toInt := (congrArg Int32.toInt (show σ70 55 13 = (σ 55 13) from ((f73 13 (by decide)).trans (congrFun (f52 55 (by decide)) 13))))
  have z123 : (σ70 38 0).toInt = (σ 38 0).toInt := (congrArg Int32.toInt (show σ70 38 0 = (σ 38 0) from ((congrFun (f72 38 (by decide)) 0).trans (congrFun (f52 38 (by decide)) 0))))
  have z124 : (σ70 55 32).toInt = (σ 55 32).toInt := (congrArg Int32.toInt (show σ70 55 32 = (σ 55 32) from ((f73 32 (by decide)).trans (congrFun (f52 55 (by decide)) 32))))
  have z125 : (σ70 38 1).toInt = (σ 38 1).toInt := (congrArg Int32.toInt (show σ70 38 1 = (σ 38 1) from ((congrFun (f72 38 (by decide)) 1).trans (congrFun (f52 38 (by decide)) 1))))
  have z126 : (σ70 55 55).toInt = (σ 55 55).toInt := (congrArg Int32.toInt (show σ70 55 55 = (σ 55 55) from ((f73 55 (by decide)).trans (congrFun (f52 55 (by decide)) 55))))
  have z127 : (σ70 47 0).toInt = (σ 47 0).toInt := (congrArg Int32.toInt (show σ70 47 0 = (σ 47 0) from ((congrFun (f72 47 (by decide)) 0).trans (congrFun (f52 47 (by decide)) 0))))
  have z128 : (σ70 55 47).toInt = (σ 55 47).toInt := (congrArg Int32.toInt (show σ70 55 47 = (σ 55 47) from ((f73 47 (by decide)).trans (congrFun (f52 55 (by decide)) 47))))
  have z129 : (σ70 55 30).toInt = (σ 55 30).toInt := (congrArg Int32.toInt (show σ70 55 30 = (σ 55 30) from ((f73 30 (by decide)).trans (congrFun (f52 55 (by decide)) 30))))
  have z130 : (σ70 55 31).toInt = (σ 55 31).toInt := (congrArg Int32.toInt (show σ70 55 31 = (σ 55 31) from ((f73 31 (by decide)).trans (congrFun (f52 55 (by decide)) 31))))
  have z131 : (σ70 2 1).toInt = (σ 2 1).toInt := (congrArg Int32.toInt (show σ70 2 1 = (σ 2 1) from ((congrFun (f72 2 (by decide)) 1).trans (congrFun (f52 2 (by decide)) 1))))
  have z132 : (σ70 55 9).toInt = (σ 55 9).toInt := (congrArg Int32.toInt (show σ70 55 9 = (σ 55 9) from ((f73 9 (by decide)).trans (congrFun (f52 55 (by decide)) 9))))
  have z133 : (σ70 26 6).toInt = (σ 26 6).toInt := (congrArg Int32.toInt (show σ70 26 6 = (σ 26 6) from ((congrFun (f72 26 (by decide)) 6).trans (congrFun (f52 26 (by decide)) 6))))
  have z135 : (σ70 18 0).toInt = (σ 18 0).toInt := (congrArg Int32.toInt (show σ70 18 0 = (σ 18 0) from ((congrFun (f72 18 (by decide)) 0).trans (congrFun (f52 18 (by decide)) 0))))
  have z136 : (σ70 22 0).toInt = (σ 22 0).toInt := (congrArg Int32.toInt (show σ70 22 0 = (σ 22 0) from ((congrFun (f72 22 (by decide)) 0).trans (congrFun (f52 22 (by decide)) 0))))
  exact ih x78 σ70 τ _ _ ls (by have h9 := tx78; omega) ⟨I79, I80, I81, I82, I83, I84, I85, I86, I87, I88, I89, I90, I91, I92, I93, I94, I95, I96, I97, I98, I99, I100, I101, I74, p75, p102, p103, p104, p105, p106, p76, p107, p108, (by omega), (by omega), (by omega), (by omega), (by omega), (by omega), (by omega), (by omega), (by omega), (by omega), (by omega), (by omega), (by omega), (by have h9 := tx78; omega), (show jNumP (σ70 3) (σ70 56) (σ70 6) (σ70 57) (σ70 7) (σ70 58) (σ70 8) (σ70 59) (σ70 55 6).toInt (σ70 55 4).toInt by rw [show σ70 3 = σ 3 from ((f72 3 (by decide)).trans (f52 3 (by decide))), show σ70 56 = σ 56 from ((f72 56 (by decide)).trans (f52 56 (by decide))), show σ70 6 = σ 6 from ((f72 6 (by decide)).trans (f52 6 (by decide))), show σ70 57 = σ 57 from ((f72 57 (by decide)).trans (f52 57 (by decide))), show σ70 7 = σ 7 from ((f72 7 (by decide)).trans (f52 7 (by decide))), show σ70 58 = σ 58 from ((f72 58 (by decide)).trans (f52 58 (by decide))), show σ70 8 = σ 8 from ((f72 8 (by decide)).trans (f52 8 (by decide))), show σ70 59 = σ 59 from ((f72 59 (by decide)).trans (f52 59 (by decide))), show (σ70 55 6).toInt = (σ 55 6).toInt from by omega, show (σ70 55 4).toInt = (σ 55 4).toInt from by omega]; exact hr0), (show jOvP (σ70 56) (σ70 57) (σ70 58) (σ70 59) (σ70 55 4).toInt by rw [show σ70 56 = σ 56 from ((f72 56 (by decide)).trans (f52 56 (by decide))), show σ70 57 = σ 57 from ((f72 57 (by decide)).trans (f52 57 (by decide))), show σ70 58 = σ 58 from ((f72 58 (by decide)).trans (f52 58 (by decide))), show σ70 59 = σ 59 from ((f72 59 (by decide)).trans (f52 59 (by decide))), show (σ70 55 4).toInt = (σ 55 4).toInt from by omega]; exact hr1), (show jTp (σ70 10) (σ70 63) (σ70 55 15).toInt by rw [show σ70 10 = σ 10 from ((f72 10 (by decide)).trans (f52 10 (by decide))), show σ70 63 = σ 63 from ((f72 63 (by decide)).trans (f52 63 (by decide)))]; exact hr2.le (by omega)), (show jSo (σ70 17) (σ70 62) (σ70 16 0).toInt by rw [show σ70 17 = σ 17 from ((f72 17 (by decide)).trans (f52 17 (by decide))), show σ70 62 = σ 62 from ((f72 62 (by decide)).trans (f52 62 (by decide))), show (σ70 16 0).toInt = (σ 16 0).toInt from by omega]; exact hr3), (show jShP (σ70 51) (σ70 52) (σ70 53) (σ70 86) (σ70 87) (σ70 55 32).toInt by rw [show σ70 51 = σ 51 from ((f72 51 (by decide)).trans (f52 51 (by decide))), show σ70 52 = σ 52 from ((f72 52 (by decide)).trans (f52 52 (by decide))), show σ70 53 = σ 53 from ((f72 53 (by decide)).trans (f52 53 (by decide))), show σ70 86 = σ 86 from ((f72 86 (by decide)).trans (f52 86 (by decide))), show σ70 87 = σ 87 from ((f72 87 (by decide)).trans (f52 87 (by decide)))]; exact (hr4.up (by omega) (by omega))), (show jEl (σ70 51) (σ70 52) (τ 54) (τ 88) by rw [show σ70 51 = σ 51 from ((f72 51 (by decide)).trans (f52 51 (by decide))), show σ70 52 = σ 52 from ((f72 52 (by decide)).trans (f52 52 (by decide)))]; exact hr5), (show jByP (σ70 51) (σ70 52) (τ 54) by rw [show σ70 51 = σ 51 from ((f72 51 (by decide)).trans (f52 51 (by decide))), show σ70 52 = σ 52 from ((f72 52 (by decide)).trans (f52 52 (by decide)))]; exact hr6), (show jBk (σ70 48) (σ70 80) (σ70 49) (σ70 81) (σ70 55 47).toInt by rw [show σ70 48 = σ 48 from ((f72 48 (by decide)).trans (f52 48 (by decide))), show σ70 49 = σ 49 from ((f72 49 (by decide)).trans (f52 49 (by decide))), show σ70 80 = σ 80 from ((f72 80 (by decide)).trans (f52 80 (by decide))), show σ70 81 = σ 81 from ((f72 81 (by decide)).trans (f52 81 (by decide))), show (σ70 55 47).toInt = (σ 55 47).toInt from by omega]; exact hr7), (show jKd (σ70 39) (σ70 70) (σ70 55 32).toInt by rw [show σ70 39 = σ 39 from ((f72 39 (by decide)).trans (f52 39 (by decide))), show σ70 70 = σ 70 from ((f72 70 (by decide)).trans (f52 70 (by decide))), show (σ70 55 32).toInt = (σ 55 32).toInt from by omega]; exact hr8), (show jTt (σ70 42) (σ70 85) (σ70 55 55).toInt by rw [show σ70 42 = σ 42 from ((f72 42 (by decide)).trans (f52 42 (by decide))), show σ70 85 = σ 85 from ((f72 85 (by decide)).trans (f52 85 (by decide))), show (σ70 55 55).toInt = (σ 55 55).toInt from by omega]; exact hr9), (fun k hk => by rw [show σ70 4 = σ 4 from ((f72 4 (by decide)).trans (f52 4 (by decide))), show σ70 5 = σ 5 from ((f72 5 (by decide)).trans (f52 5 (by decide))), show σ70 60 = σ 60 from ((f72 60 (by decide)).trans (f52 60 (by decide))), show σ70 61 = σ 61 from ((f72 61 (by decide)).trans (f52 61 (by decide)))]; exact hr10 k (by omega)), (fun nm => by rw [show σ70 19 = σ 19 from ((f72 19 (by decide)).trans (f52 19 (by decide))), show σ70 64 = σ 64 from ((f72 64 (by decide)).trans (f52 64 (by decide))), show σ70 65 = σ 65 from ((f72 65 (by decide)).trans (f52 65 (by decide))), show (σ70 18 0).toInt = (σ 18 0).toInt from by omega]; exact hr11 nm), (fun nm => by rw [show σ70 23 = σ 23 from ((f72 23 (by decide)).trans (f52 23 (by decide))), show σ70 64 = σ 64 from ((f72 64 (by decide)).trans (f52 64 (by decide))), show σ70 65 = σ 65 from ((f72 65 (by decide)).trans (f52 65 (by decide))), show (σ70 22 0).toInt = (σ 22 0).toInt from by omega]; exact hr12 nm)⟩ hP hS (lv_sub hl [0, 1, 2, 3] rfl)
set_option maxHeartbeats 4000000 in
set_option maxRecDepth 100000 in
theorem law_case_12 {p : Program} {e : Env} {s : State} {m : MethodId} {below : List Frame} {meth : Method} {c : Code} (l : Launch) {b L : Nat} {xs : Nat → Int32} {D : va_G} {cI cL : ClassId} {ad zz : Nat → Nat} (C0 : lw_At p s m meth c b L xs) (hJ : jD ad) (hA : ∀ q, jA ad q → s.heap.size ≤ q) (hK : jK D cI cL s) (hZ : jZ zz (fun q : Nat => s.heap.size ≤ q) s s.heap) {x0 : Int32} (hx0 : 0 ≤ x0.toInt) (hxL : x0.toInt + 6 ≤ (L : Int)) (hL : L ≤ 384) {σ : Nat → Nat → Int32} {τ : Nat → Nat → Int64} {H : Heap} {locs : List Loc} (hS : va_S (fun q : Nat => s.heap.size ≤ q) s.heap H locs) {ls : Array Slot} (hAll : jAll x0.toInt σ τ) (hP : jH D cI cL ad σ τ H) (hl : lv_has ls 4 [(3, .int x0), (2, .ref (ad 55)), (1, .ref (ad 0)), (0, .ref b)]) (ih : ∀ (x1 : Int32) (σ : Nat → Nat → Int32) (τ : Nat → Nat → Int64) (H : Heap) (locs : List Loc) (ls : Array Slot), x1.toInt = x0.toInt + 6 → jAll x1.toInt σ τ → jH D cI cL ad σ τ H → va_S (fun q : Nat => s.heap.size ≤ q) s.heap H locs → lv_has ls 4 [(3, .int x1), (2, .ref (ad 55)), (1, .ref (ad 0)), (0, .ref b)] → W p l e room_1 s m #[Value.ref b] below meth c H locs 90 348600 (lw_Z below #[Value.ref b] s) (F0 m 18 ls [])) : W p l e room_1 s m #[Value.ref b] below meth c H locs 90 348600 (lw_Z below #[Value.ref b] s) (F0 m 572 ls []) := by
  obtain ⟨hx, hb, hr, hml, hown, hts0, hX, hbl, hlocks, hgv⟩ := C0
  have hts : ∀ w ∈ wsL_law, w.before #[Value.ref b] s = true := fun w h => hts0 w (wsL_law_in w h)
  have hbA : ¬ (fun q : Nat => s.heap.size ≤ q) b := Nat.not_le.mpr hbl
  have hown : s.vm.findClass RL = some m.cls := hown
  obtain ⟨hI2, hI9, hI12, hI16, hI18, hI22, hI31, hI38, hI43, hI47, hI50, hI0, hI26, hI101, hI102, hI103, hI104, hI105, hI106, hI107, hI109, hI110, hI111, hI119, hs_jKept, hs_jBook, hs_jNd12, hs_jN67, hs_jBl, hs_jKb, hs_jTR, hs_jKh, hs_jKg, ht0, ht1, ht2, ht3, ht4, ht5, ht6, ht7, ht8, ht9, ht10, ht11, ht12, ht13, hr0, hr1, hr2, hr3, hr4, hr5, hr6, hr7, hr8, hr9, hr10, hr11, hr12⟩ := hAll
  have hL9 : (L : Int) ≤ 384 := by omega
  obtain ⟨i1, i2, i3, i4, i5, w6⟩ : (0 ≤ (σ 2 0).toInt ∧ (σ 2 0).toInt ≤ 4) ∧ (0 ≤ (σ 2 1).toInt ∧ (σ 2 1).toInt ≤ 3) ∧ (0 ≤ (σ 2 2).toInt) ∧ (0 ≤ (σ 2 3).toInt) ∧ ((σ 2 2).toInt + (σ 2 3).toInt ≤ 40) ∧ (∀ k : Nat, k < 40 → 0 ≤ (σ 6 k).toInt ∧ (σ 6 k).toInt ≤ 67) := id hI2
  obtain ⟨i7, w8, w9⟩ : (0 ≤ (σ 9 0).toInt ∧ (σ 9 0).toInt ≤ 80) ∧ (∀ k : Nat, k < 80 → 0 ≤ (σ 10 k).toInt ∧ (σ 10 k).toInt ≤ 255) ∧ (∀ k : Nat, k < 8 → 0 ≤ (σ 11 k).toInt ∧ (σ 11 k).toInt ≤ 3) := id hI9
  obtain ⟨i10, i11, i12, w13⟩ : (1 ≤ (σ 16 0).toInt ∧ (σ 16 0).toInt ≤ 8) ∧ (1 ≤ (σ 16 1).toInt ∧ (σ 16 1).toInt ≤ 12) ∧ (0 ≤ (σ 16 2).toInt ∧ (σ 16 2).toInt ≤ 999) ∧ (∀ k : Nat, k < 8 → 0 ≤ (σ 17 k).toInt ∧ (σ 17 k).toInt ≤ 3) := id hI16
  obtain ⟨i14, i15, w16⟩ : (0 ≤ (σ 38 0).toInt ∧ (σ 38 0).toInt ≤ 20) ∧ (0 ≤ (σ 38 1).toInt ∧ (σ 38 1).toInt ≤ 1000) ∧ (∀ k : Nat, k < 20 → 0 ≤ (σ 39 k).toInt ∧ (σ 39 k).toInt ≤ 6) := id hI38
  obtain ⟨i17, w18, w19⟩ : (0 ≤ (σ 47 0).toInt ∧ (σ 47 0).toInt ≤ 12) ∧ (∀ k : Nat, k < 12 → 0 ≤ (σ 48 k).toInt ∧ (σ 48 k).toInt ≤ 3) ∧ (∀ k : Nat, k < 12 → 0 ≤ (σ 49 k).toInt ∧ (σ 49 k).toInt ≤ 1) := id hI47
  have w20 : ∀ k : Nat, k < 6 → 0 ≤ (σ 52 k).toInt ∧ (σ 52 k).toInt ≤ 60 := hI50
  have i21 : 1 ≤ (σ 26 6).toInt ∧ (σ 26 6).toInt ≤ 8000 := hI26
  obtain ⟨i22, i23, i24, w25, w26, w27, w28⟩ : (0 ≤ (σ 55 5).toInt) ∧ ((σ 55 5).toInt ≤ (σ 55 4).toInt) ∧ ((σ 55 4).toInt ≤ 40) ∧ (∀ k : Nat, k < 68 → (-200) ≤ (σ 56 k).toInt ∧ (σ 56 k).toInt ≤ 500) ∧ (∀ k : Nat, k < 40 → 0 ≤ (σ 57 k).toInt ∧ (σ 57 k).toInt ≤ 67) ∧ (∀ k : Nat, k < 40 → (-200) ≤ (σ 58 k).toInt ∧ (σ 58 k).toInt ≤ 500) ∧ (∀ k : Nat, k < 40 → (-200) ≤ (σ 59 k).toInt ∧ (σ 59 k).toInt ≤ 500) := id hI101
  obtain ⟨i29, w30, w31⟩ : (0 ≤ (σ 55 6).toInt ∧ (σ 55 6).toInt ≤ 4) ∧ (∀ k : Nat, k < 4 → 0 ≤ (σ 60 k).toInt ∧ (σ 60 k).toInt ≤ 50) ∧ (∀ k : Nat, k < 4 → 0 ≤ (σ 61 k).toInt ∧ (σ 61 k).toInt ≤ 20) := id hI102
  have i32 : 0 ≤ (σ 55 9).toInt ∧ (σ 55 9).toInt ≤ 3 := hI103
  obtain ⟨i33, i34, i35, w36, w37⟩ : (1 ≤ (σ 55 10).toInt ∧ (σ 55 10).toInt ≤ 8) ∧ (1 ≤ (σ 55 12).toInt ∧ (σ 55 12).toInt ≤ 12) ∧ (0 ≤ (σ 55 13).toInt ∧ (σ 55 13).toInt ≤ 999) ∧ (∀ k : Nat, k < 8 → 0 ≤ (σ 62 k).toInt ∧ (σ 62 k).toInt ≤ 3) ∧ (∀ k : Nat, k < 8 → 0 ≤ (σ 67 k).toInt ∧ (σ 67 k).toInt ≤ 3) := id hI104
  obtain ⟨i38, w39⟩ : (0 ≤ (σ 55 15).toInt ∧ (σ 55 15).toInt ≤ 80) ∧ (∀ k : Nat, k < 2 → (-1) ≤ (σ 65 k).toInt ∧ (σ 65 k).toInt ≤ 80) := id hI105
  obtain ⟨i40, w41, w42, w43⟩ : (0 ≤ (σ 55 32).toInt ∧ (σ 55 32).toInt ≤ 20) ∧ (∀ k : Nat, k < 20 → 0 ≤ (σ 70 k).toInt ∧ (σ 70 k).toInt ≤ 6) ∧ (∀ k : Nat, k < 20 → 0 ≤ (σ 71 k).toInt ∧ (σ 71 k).toInt ≤ 8) ∧ (∀ k : Nat, k < 160 → 0 ≤ (σ 72 k).toInt ∧ (σ 72 k).toInt ≤ 3) := id hI106
  obtain ⟨i44, i45, w46⟩ : (0 ≤ (σ 55 47).toInt ∧ (σ 55 47).toInt ≤ 12) ∧ ((σ 55 47).toInt ≤ (σ 55 12).toInt) ∧ (∀ k : Nat, k < 12 → 0 ≤ (σ 80 k).toInt ∧ (σ 80 k).toInt ≤ 3) := id hI107
  have hs_jOk3 : jOk3 σ := hr0.ok hr1.1
  refine lv_aload_n hx hb dL_law_572 rfl (lv_at hl 2 rfl) ?_
  refine lv_aload_n hx hb dL_law_573 rfl (lv_at hl 3 rfl) ?_
  refine lv_iload_n hx hb dL_law_574 rfl (lv_at hl 0 rfl) ?_
  refine lv_iconst (v := 1) hx hb dL_law_575 (by decide) ?_
  have g47 := jrg (rfl : x0.toInt = x0.toInt)
  refine lv_iadd hx hb dL_law_576 ?_
  refine lv_topi (fun x48 ex48 => ?_)
  have tx48 : x48.toInt = x0.toInt + 1 := (jadd ex48 rfl jz_1 (by omega) (by omega)).trans (by omega)
  refine va_sld hx hb hX hbl hbA hS (jin tx48 (by omega) (by omega)) dL_law_577 ?_
  have g49 := jrg (rfl : (xs x48.toNatClampNeg).toInt = (xs x48.toNatClampNeg).toInt)
  refine lv_aload_n hx hb dL_law_578 rfl (lv_at hl 3 rfl) ?_
  refine lv_iload_n hx hb dL_law_579 rfl (lv_at hl 0 rfl) ?_
  refine lv_iconst (v := 2) hx hb dL_law_580 (by decide) ?_
  refine lv_iadd hx hb dL_law_581 ?_
  refine lv_topi (fun x50 ex50 => ?_)
  have tx50 : x50.toInt = x0.toInt + 2 := (jadd ex50 rfl jz_2 (by omega) (by omega)).trans (by omega)
  refine va_sld hx hb hX hbl hbA hS (jin tx50 (by omega) (by omega)) dL_law_582 ?_
  have g51 := jrg (rfl : (xs x50.toNatClampNeg).toInt = (xs x50.toNatClampNeg).toInt)
  refine jcallV (As := [.int (xs x48.toNatClampNeg), .int (xs x50.toNatClampNeg)]) (rest := []) ⟨hx, hb, hml, hown, hts⟩ hK hP hA hS hZ (c_X11_likely l D cI cL ad zz hJ σ τ (xs x48.toNatClampNeg) ((xs x48.toNatClampNeg).toInt) rfl (xs x50.toNatClampNeg) ((xs x50.toNatClampNeg).toInt) rfl hI2 hI16 hI18 hI22 hI31 hI38 hI26 hs_jN67 hs_jBl hs_jKb hs_jKh hs_jKg) cw_RL_65 (jc_0 cI cL ad σ τ) rfl ⟨Nat.le_of_ble_eq_true rfl, Nat.le_of_ble_eq_true rfl⟩ rfl rfl rfl hl.1 rfl (Nat.le_of_ble_eq_true rfl) dL_law_583 ⟨Nat.le_of_ble_eq_true rfl, Nat.le_of_ble_eq_true rfl⟩ (fun r53 σ52 τ52 H locs h52 hP hS => ?_)
  obtain ⟨rfl, f54, f55, I56, p57, p58, p59, p60, p61, h52⟩ := h52
  refine lv_pop hx hb dL_law_586 rfl ?_
  refine lv_aload_n hx hb dL_law_587 rfl (lv_at hl 1 rfl) ?_
  refine lv_aload_n hx hb dL_law_588 rfl (lv_at hl 3 rfl) ?_
  refine lv_iload_n hx hb dL_law_589 rfl (lv_at hl 0 rfl) ?_
  refine lv_iconst (v := 1) hx hb dL_law_590 (by decide) ?_
  refine lv_iadd hx hb dL_law_591 ?_
  refine jtopr ex48.symm ?_
  refine va_sld hx hb hX hbl hbA hS (jin tx48 (by omega) (by omega)) dL_law_592 ?_
  refine lv_aload_n hx hb dL_law_593 rfl (lv_at hl 3 rfl) ?_
  refine lv_iload_n hx hb dL_law_594 rfl (lv_at hl 0 rfl) ?_
  refine lv_iconst (v := 2) hx hb dL_law_595 (by decide) ?_
  refine lv_iadd hx hb dL_law_596 ?_
  refine jtopr ex50.symm ?_
  refine va_sld hx hb hX hbl hbA hS (jin tx50 (by omega) (by omega)) dL_law_597 ?_
  have I63 : jI101 σ52 := jI101_fr (congrFun (f54 55 (by decide)) 4) (congrFun (f54 55 (by decide)) 5) (f54 56 (by decide)) (f54 57 (by decide)) (f54 58 (by decide)) (f54 59 (by decide)) hI101
  have I64 : jI102 σ52 := jI102_fr (congrFun (f54 55 (by decide)) 6) (f54 60 (by decide)) (f54 61 (by decide)) hI102
  have I65 : jI103 σ52 := jI103_fr (congrFun (f54 55 (by decide)) 9) hI103
  have I66 : jI104 σ52 := jI104_fr (congrFun (f54 55 (by decide)) 10) (congrFun (f54 55 (by decide)) 12) (congrFun (f54 55 (by decide)) 13) (f54 62 (by decide)) (f54 67 (by decide)) hI104
  have I67 : jI105 σ52 := jI105_fr (congrFun (f54 55 (by decide)) 15) (f54 65 (by decide)) hI105
  have I68 : jI106 σ52 := jI106_fr (congrFun (f54 55 (by decide)) 32) (f54 70 (by decide)) (f54 71 (by decide)) (f54 72 (by decide)) hI106
  have I69 : jI119 σ52 := jI119_fr (f54 68 (by decide)) hI119
  have p70 : jKept σ52 := jKept.fr (f54 75 (by decide)) (f54 76 (by decide)) (f54 77 (by decide)) hs_jKept
  have p71 : jTR σ52 := jTR.fr (f54 64 (by decide)) (f54 65 (by decide)) hs_jTR
  refine jcallV (As := [.int (xs x48.toNatClampNeg), .int (xs x50.toNatClampNeg)]) (rest := []) ⟨hx, hb, hml, hown, hts⟩ hK hP hA hS hZ (c_X12_likely l D cI cL ad zz hJ σ52 τ (xs x48.toNatClampNeg) ((xs x48.toNatClampNeg).toInt) rfl (xs x50.toNatClampNeg) ((xs x50.toNatClampNeg).toInt) rfl I63 I64 I65 I66 I67 I68 I69 p70 p71) cw_RL_68 (jc_55 cI cL ad σ52 τ) rfl ⟨Nat.le_of_ble_eq_true rfl, Nat.le_of_ble_eq_true rfl⟩ rfl rfl rfl hl.1 rfl (Nat.le_of_ble_eq_true rfl) dL_law_598 ⟨Nat.le_of_ble_eq_true rfl, Nat.le_of_ble_eq_true rfl⟩ (fun r73 σ72 τ72 H locs h72 hP hS => ?_)
  obtain ⟨rfl, f74, f75, I76, p77, p78, h72⟩ := h72
  refine lv_pop hx hb dL_law_601 rfl ?_
  refine lv_goto (tgt := 1357) hx hb dL_law_602 (by decide) ?_
  obtain ⟨x80, ex80⟩ : ∃ y : Int32, y = x0 + 6 := ⟨_, rfl⟩
  have tx80 : x80.toInt = x0.toInt + 6 := (jadd ex80 rfl jz_6 (by omega) (by omega)).trans (by omega)
  refine lv_iinc (v := x80) (lv' := [(3, .int x80), (2, .ref (ad 55)), (1, .ref (ad 0)), (0, .ref b)]) hx hb dL_law_1357 hl (k := 0) rfl (by rw [ex80]; rfl) (by decide) rfl (fun ls hl => ?_)
  refine lv_goto (tgt := 18) hx hb dL_law_1360 (by decide) ?_
  have I81 : jI2 σ72 := jI2_fr ((congrFun (f74 2 (by decide)) 0).trans (congrFun (f54 2 (by decide)) 0)) ((congrFun (f74 2 (by decide)) 1).trans (congrFun (f54 2 (by decide)) 1)) ((congrFun (f74 2 (by decide)) 2).trans (congrFun (f54 2 (by decide)) 2)) ((congrFun (f74 2 (by decide)) 3).trans (congrFun (f54 2 (by decide)) 3)) ((f74 6 (by decide)).trans (f54 6 (by decide))) hI2
  have I82 : jI9 σ72 := jI9_fr ((congrFun (f74 9 (by decide)) 0).trans (congrFun (f54 9 (by decide)) 0)) ((f74 10 (by decide)).trans (f54 10 (by decide))) ((f74 11 (by decide)).trans (f54 11 (by decide))) hI9
  have I83 : jI12 σ72 := jI12_fr ((congrFun (f74 12 (by decide)) 0).trans (congrFun (f54 12 (by decide)) 0)) ((f74 13 (by decide)).trans (f54 13 (by decide))) hI12
  have I84 : jI16 σ72 := jI16_fr ((congrFun (f74 16 (by decide)) 0).trans (congrFun (f54 16 (by decide)) 0)) ((congrFun (f74 16 (by decide)) 1).trans (congrFun (f54 16 (by decide)) 1)) ((congrFun (f74 16 (by decide)) 2).trans (congrFun (f54 16 (by decide)) 2)) ((f74 17 (by decide)).trans (f54 17 (by decide))) hI16
  have I85 : jI18 σ72 := jI18_fr ((congrFun (f74 18 (by decide)) 0).trans (congrFun (f54 18 (by decide)) 0)) ((f74 19 (by decide)).trans (f54 19 (by decide))) hI18
  have I86 : jI22 σ72 := jI22_fr ((congrFun (f74 22 (by decide)) 0).trans (congrFun (f54 22 (by decide)) 0)) ((f74 23 (by decide)).trans (f54 23 (by decide))) hI22
  have I87 : jI31 σ72 := jI31_fr (congrFun (f74 31 (by decide)) 8) (congrFun (f74 31 (by decide)) 10) (congrFun (f74 31 (by decide)) 11) (f74 33 (by decide)) (f74 35 (by decide)) (f74 36 (by decide)) I56
  have I88 : jI38 σ72 := jI38_fr ((congrFun (f74 38 (by decide)) 0).trans (congrFun (f54 38 (by decide)) 0)) ((congrFun (f74 38 (by decide)) 1).trans (congrFun (f54 38 (by decide)) 1)) ((f74 39 (by decide)).trans (f54 39 (by decide))) hI38
  have I89 : jI43 σ72 := jI43_fr ((congrFun (f74 43 (by decide)) 8).trans (congrFun (f54 43 (by decide)) 8)) hI43
  have I90 : jI47 σ72 := jI47_fr ((congrFun (f74 47 (by decide)) 0).trans (congrFun (f54 47 (by decide)) 0)) ((f74 48 (by decide)).trans (f54 48 (by decide))) ((f74 49 (by decide)).trans (f54 49 (by decide))) hI47
  have I91 : jI50 σ72 := jI50_fr ((f74 52 (by decide)).trans (f54 52 (by decide))) hI50
  have I92 : jI0 σ72 := jI0_fr ((f74 1 (by decide)).trans (f54 1 (by decide))) hI0
  have I93 : jI26 σ72 := jI26_fr ((congrFun (f74 26 (by decide)) 6).trans (congrFun (f54 26 (by decide)) 6)) hI26
  have I94 : jI101 σ72 := jI101_fr (f75 4 (by decide)) (f75 5 (by decide)) (f74 56 (by decide)) (f74 57 (by decide)) (f74 58 (by decide)) (f74 59 (by decide)) I63
  have I95 : jI102 σ72 := jI102_fr (f75 6 (by decide)) (f74 60 (by decide)) (f74 61 (by decide)) I64
  have I96 : jI103 σ72 := jI103_fr (f75 9 (by decide)) I65
  have I97 : jI104 σ72 := jI104_fr (f75 10 (by decide)) (f75 12 (by decide)) (f75 13 (by decide)) (f74 62 (by decide)) (f74 67 (by decide)) I66
  have I98 : jI105 σ72 := jI105_fr (f75 15 (by decide)) (f74 65 (by decide)) I67
  have I99 : jI106 σ72 := jI106_fr (f75 32 (by decide)) (f74 70 (by decide)) (f74 71 (by decide)) (f74 72 (by decide)) I68
  have I100 : jI107 σ72 := jI107_fr ((f75 12 (by decide)).trans (congrFun (f54 55 (by decide)) 12)) ((f75 47 (by decide)).trans (congrFun (f54 55 (by decide)) 47)) ((f74 80 (by decide)).trans (f54 80 (by decide))) hI107
  have I101 : jI109 σ72 := jI109_fr ((f75 50 (by decide)).trans (congrFun (f54 55 (by decide)) 50)) hI109
  have I102 : jI110 σ72 := jI110_fr ((f74 86 (by decide)).trans (f54 86 (by decide))) ((f74 87 (by decide)).trans (f54 87 (by decide))) hI110
  have I103 : jI111 σ72 := jI111_fr ((f74 79 (by decide)).trans (f54 79 (by decide))) hI111
  have p104 : jBook σ72 := jBook.fr ((f75 47 (by decide)).trans (congrFun (f54 55 (by decide)) 47)) ((f75 10 (by decide)).trans (congrFun (f54 55 (by decide)) 10)) ((f74 81 (by decide)).trans (f54 81 (by decide))) hs_jBook
  have p105 : jNd12 σ72 := jNd12.fr ((congrFun (f74 12 (by decide)) 0).trans (congrFun (f54 12 (by decide)) 0)) ((congrFun (f74 12 (by decide)) 1).trans (congrFun (f54 12 (by decide)) 1)) ((f74 13 (by decide)).trans (f54 13 (by decide))) hs_jNd12
  have p106 : jN67 σ72 := jN67.fr (f74 24 (by decide)) p57
  have p107 : jBl σ72 := jBl.fr (congrFun (f74 22 (by decide)) 0) (congrFun (f74 22 (by decide)) 1) (f74 23 (by decide)) (congrFun (f74 26 (by decide)) 6) (congrFun (f74 26 (by decide)) 7) (f74 29 (by decide)) (f74 30 (by decide)) p58
  have p108 : jKb σ72 := jKb.fr (congrFun (f74 31 (by decide)) 8) (congrFun (f74 31 (by decide)) 11) (f74 32 (by decide)) p59
  have p109 : jKh σ72 := jKh.fr (congrFun (f74 31 (by decide)) 8) (f74 32 (by decide)) (f74 36 (by decide)) (f74 37 (by decide)) p60
  have p110 : jKg σ72 := jKg.fr (congrFun (f74 31 (by decide)) 8) (congrFun (f74 31 (by decide)) 9) (congrFun (f74 31 (by decide)) 11) (congrFun (f74 31 (by decide)) 12) (f74 32 (by decide)) (f74 33 (by decide)) p61
  have z111 : (σ72 2 0).toInt = (σ 2 0).toInt := (congrArg Int32.toInt (show σ72 2 0 = (σ 2 0) from ((congrFun (f74 2 (by decide)) 0).trans (congrFun (f54 2 (by decide)) 0))))
  have z112 : (σ72 55 6).toInt = (σ 55 6).toInt := (congrArg Int32.toInt (show σ72 55 6 = (σ 55 6) from ((f75 6 (by decide)).trans (congrFun (f54 55 (by decide)) 6))))
  have z113 : (σ72 2 2).toInt = (σ 2 2).toInt := (congrArg Int32.toInt (show σ72 2 2 = (σ 2 2) from ((congrFun (f74 2 (by decide)) 2).trans (congrFun (f54 2 (by decide)) 2))))
  have z114 : (σ72 55 5).toInt = (σ 55 5).toInt := (congrArg Int32.toInt (show σ72 55 5 = (σ 55 5) from ((f75 5 (by decide)).trans (congrFun (f54 55 (by decide)) 5))))
  have z115 : (σ72 2 3).toInt = (σ 2 3).toInt := (congrArg Int32.toInt (show σ72 2 3 = (σ 2 3) from ((congrFun (f74 2 (by decide)) 3).trans (congrFun (f54 2 (by decide)) 3))))
  have z116 : (σ72 55 4).toInt = (σ 55 4).toInt := (congrArg Int32.toInt (show σ72 55 4 = (σ 55 4) from ((f75 4 (by decide)).trans (congrFun (f54 55 (by decide)) 4))))
  have z117 : (σ72 9 0).toInt = (σ 9 0).toInt := (congrArg Int32.toInt (show σ72 9 0 = (σ 9 0) from ((congrFun (f74 9 (by decide)) 0).trans (congrFun (f54 9 (by decide)) 0))))
  have z118 : (σ72 55 15).toInt = (σ 55 15).toInt := (congrArg Int32.toInt (show σ72 55 15 = (σ 55 15) from ((f75 15 (by decide)).trans (congrFun (f54 55 (by decide)) 15))))
  have z119 : (σ72 16 0).toInt = (σ 16 0).toInt := (congrArg Int32.toInt (show σ72 16 0 = (σ 16 0) from ((congrFun (f74 16 (by decide)) 0).trans (congrFun (f54 16 (by decide)) 0))))
  have z120 : (σ72 55 10).toInt = (σ 55 10).toInt := (congrArg Int32.toInt (show σ72 55 10 = (σ 55 10) from ((f75 10 (by decide)).trans (congrFun (f54 55 (by decide)) 10))))
  have z121 : (σ72 16 1).toInt = (σ 16 1).toInt := (congrArg Int32.toInt (show σ72 16 1 = (σ 16 1) from ((congrFun (f74 16 (by decide)) 1).trans (congrFun (f54 16 (by decide)) 1))))
  have z122 : (σ72 55 12).toInt = (σ 55 12).toInt := (congrArg Int32.toInt (show σ72 55 12 = (σ 55 12) from ((f75 12 (by decide)).trans (congrFun (f54 55 (by decide)) 12))))
  have z123 : (σ72 16 2).toInt = (σ 16 2).toInt := (congrArg Int32.toInt (show σ72 16 2 = (σ 16 2) from ((congrFun (f74 16 (by decide)) 2).trans (congrFun (f54 16 (by decide)) 2))))
  have z124 : (σ72 55 13).toInt = (σ 55 13).toInt := (congrArg Int32.toInt (show σ72 55 13 = (σ 55 13) from ((f75 13 (by decide)).trans (congrFun (f54 55 (by decide)) 13))))
  have z125 : (σ72 38 0).toInt = (σ 38 0).toInt := (congrArg Int32.toInt (show σ72 38 0 = (σ 38 0) from ((congrFun (f74 38 (by decide)) 0).trans (congrFun (f54 38 (by decide)) 0))))
  have z126 : (σ72 55 32).toInt = (σ 55 32).toInt := (congrArg Int32.toInt (show σ72 55 32 = (σ 55 32) from ((f75 32 (by decide)).trans (congrFun (f54 55 (by decide)) 32))))
  have z127 : (σ72 38 1).toInt = (σ 38 1).toInt := (congrArg Int32.toInt (show σ72 38 1 = (σ 38 1) from ((congrFun (f74 38 (by decide)) 1).trans (congrFun (f54 38 (by decide)) 1))))
  have z128 : (σ72 55 55).toInt = (σ 55 55).toInt := (congrArg Int32.toInt (show σ72 55 55 = (σ 55 55) from ((f75 55 (by decide)).trans (congrFun (f54 55 (by decide)) 55))))
  have z129 : (σ72 47 0).toInt = (σ 47 0).toInt := (congrArg Int32.toInt (show σ72 47 0 = (σ 47 0) from ((congrFun (f74 47 (by decide)) 0).trans (congrFun (f54 47 (by decide)) 0))))
  have z130 : (σ72 55 47).toInt = (σ 55 47).toInt := (congrArg Int32.toInt (show σ72 55 47 = (σ 55 47) from ((f75 47 (by decide)).trans (congrFun (f54 55 (by decide)) 47))))
  have z131 : (σ72 55 30).toInt = (σ 55 30).toInt := (congrArg Int32.toInt (show σ72 55 30 = (σ 55 30) from ((f75 30 (by decide)).trans (congrFun (f54 55 (by decide)) 30))))
  have z132 : (σ72 55 31).toInt = (σ 55 31).toInt := (congrArg Int32.toInt (show σ72 55 31 = (σ 55 31) from ((f75 31 (by decide)).trans (congrFun (f54 55 (by decide)) 31))))
  have z133 : (σ72 2 1).toInt = (σ 2 1).toInt := (congrArg Int32.toInt (show σ72 2 1 = (σ 2 1) from ((congrFun (f74 2 (by decide)) 1).trans (congrFun (f54 2 (by decide)) 1))))
  have z134 : (σ72 55 9).toInt = (σ 55 9).toInt := (congrArg Int32.toInt (show σ72 55 9 = (σ 55 9) from ((f75 9 (by decide)).trans (congrFun (f54 55 (by decide)) 9))))
  have z135 : (σ72 26 6).toInt = (σ 26 6).toInt := (congrArg Int32.toInt (show σ72 26 6 = (σ 26 6) from ((congrFun (f74 26 (by decide)) 6).trans (congrFun (f54 26 (by decide)) 6))))
  have z137 : (σ72 18 0).toInt = (σ 18 0).toInt := (congrArg Int32.toInt (show σ72 18 0 = (σ 18 0) from ((congrFun (f74 18 (by decide)) 0).trans (congrFun (f54 18 (by decide)) 0))))
  have z138 : (σ72 22 0).toInt = (σ 22 0).toInt := (congrArg Int32.toInt (show σ72 22 0 = (σ 22 0) from ((congrFun (f74 22 (by decide)) 0).trans (congrFun (f54 22 (by decide)) 0))))
  exact ih x80 σ72 τ _ _ ls (by have h9 := tx80; omega) ⟨I81, I82, I83, I84, I85, I86, I87, I88, I89, I90, I91, I92, I93, I94, I95, I96, I97, I98, I99, I100, I101, I102, I103, I76, p77, p104, p105, p106, p107, p108, p78, p109, p110, (by omega), (by omega), (by omega), (by omega), (by omega), (by omega), (by omega), (by omega), (by omega), (by omega), (by omega), (by omega), (by omega), (by have h9 := tx80; omega), (show jNumP (σ72 3) (σ72 56) (σ72 6) (σ72 57) (σ72 7) (σ72 58) (σ72 8) (σ72 59) (σ72 55 6).toInt (σ72 55 4).toInt by rw [show σ72 3 = σ 3 from ((f74 3 (by decide)).trans (f54 3 (by decide))), show σ72 56 = σ 56 from ((f74 56 (by decide)).trans (f54 56 (by decide))), show σ72 6 = σ 6 from ((f74 6 (by decide)).trans (f54 6 (by decide))), show σ72 57 = σ 57 from ((f74 57 (by decide)).trans (f54 57 (by decide))), show σ72 7 = σ 7 from ((f74 7 (by decide)).trans (f54 7 (by decide))), show σ72 58 = σ 58 from ((f74 58 (by decide)).trans (f54 58 (by decide))), show σ72 8 = σ 8 from ((f74 8 (by decide)).trans (f54 8 (by decide))), show σ72 59 = σ 59 from ((f74 59 (by decide)).trans (f54 59 (by decide))), show (σ72 55 6).toInt = (σ 55 6).toInt from by omega, show (σ72 55 4).toInt = (σ 55 4).toInt from by omega]; exact hr0), (show jOvP (σ72 56) (σ72 57) (σ72 58) (σ72 59) (σ72 55 4).toInt by rw [show σ72 56 = σ 56 from ((f74 56 (by decide)).trans (f54 56 (by decide))), show σ72 57 = σ 57 from ((f74 57 (by decide)).trans (f54 57 (by decide))), show σ72 58 = σ 58 from ((f74 58 (by decide)).trans (f54 58 (by decide))), show σ72 59 = σ 59 from ((f74 59 (by decide)).trans (f54 59 (by decide))), show (σ72 55 4).toInt = (σ 55 4).toInt from by omega]; exact hr1), (show jTp (σ72 10) (σ72 63) (σ72 55 15).toInt by rw [show σ72 10 = σ 10 from ((f74 10 (by decide)).trans (f54 10 (by decide))), show σ72 63 = σ 63 from ((f74 63 (by decide)).trans (f54 63 (by decide)))]; exact hr2.le (by omega)), (show jSo (σ72 17) (σ72 62) (σ72 16 0).toInt by rw [show σ72 17 = σ 17 from ((f74 17 (by decide)).trans (f54 17 (by decide))), show σ72 62 = σ 62 from ((f74 62 (by decide)).trans (f54 62 (by decide))), show (σ72 16 0).toInt = (σ 16 0).toInt from by omega]; exact hr3), (show jShP (σ72 51) (σ72 52) (σ72 53) (σ72 86) (σ72 87) (σ72 55 32).toInt by rw [show σ72 51 = σ 51 from ((f74 51 (by decide)).trans (f54 51 (by decide))), show σ72 52 = σ 52 from ((f74 52 (by decide)).trans (f54 52 (by decide))), show σ72 53 = σ 53 from ((f74 53 (by decide)).trans (f54 53 (by decide))), show σ72 86 = σ 86 from ((f74 86 (by decide)).trans (f54 86 (by decide))), show σ72 87 = σ 87 from ((f74 87 (by decide)).trans (f54 87 (by decide)))]; exact (hr4.up (by omega) (by omega))), (show jEl (σ72 51) (σ72 52) (τ 54) (τ 88) by rw [show σ72 51 = σ 51 from ((f74 51 (by decide)).trans (f54 51 (by decide))), show σ72 52 = σ 52 from ((f74 52 (by decide)).trans (f54 52 (by decide)))]; exact hr5), (show jByP (σ72 51) (σ72 52) (τ 54) by rw [show σ72 51 = σ 51 from ((f74 51 (by decide)).trans (f54 51 (by decide))), show σ72 52 = σ 52 from ((f74 52 (by decide)).trans (f54 52 (by decide)))]; exact hr6), (show jBk (σ72 48) (σ72 80) (σ72 49) (σ72 81) (σ72 55 47).toInt by rw [show σ72 48 = σ 48 from ((f74 48 (by decide)).trans (f54 48 (by decide))), show σ72 49 = σ 49 from ((f74 49 (by decide)).trans (f54 49 (by decide))), show σ72 80 = σ 80 from ((f74 80 (by decide)).trans (f54 80 (by decide))), show σ72 81 = σ 81 from ((f74 81 (by decide)).trans (f54 81 (by decide))), show (σ72 55 47).toInt = (σ 55 47).toInt from by omega]; exact hr7), (show jKd (σ72 39) (σ72 70) (σ72 55 32).toInt by rw [show σ72 39 = σ 39 from ((f74 39 (by decide)).trans (f54 39 (by decide))), show σ72 70 = σ 70 from ((f74 70 (by decide)).trans (f54 70 (by decide))), show (σ72 55 32).toInt = (σ 55 32).toInt from by omega]; exact hr8), (show jTt (σ72 42) (σ72 85) (σ72 55 55).toInt by rw [show σ72 42 = σ 42 from ((f74 42 (by decide)).trans (f54 42 (by decide))), show σ72 85 = σ 85 from ((f74 85 (by decide)).trans (f54 85 (by decide))), show (σ72 55 55).toInt = (σ 55 55).toInt from by omega]; exact hr9), (fun k hk => by rw [show σ72 4 = σ 4 from ((f74 4 (by decide)).trans (f54 4 (by decide))), show σ72 5 = σ 5 from ((f74 5 (by decide)).trans (f54 5 (by decide))), show σ72 60 = σ 60 from ((f74 60 (by decide)).trans (f54 60 (by decide))), show σ72 61 = σ 61 from ((f74 61 (by decide)).trans (f54 61 (by decide)))]; exact hr10 k (by omega)), (fun nm => by rw [show σ72 19 = σ 19 from ((f74 19 (by decide)).trans (f54 19 (by decide))), show σ72 64 = σ 64 from ((f74 64 (by decide)).trans (f54 64 (by decide))), show σ72 65 = σ 65 from ((f74 65 (by decide)).trans (f54 65 (by decide))), show (σ72 18 0).toInt = (σ 18 0).toInt from by omega]; exact hr11 nm), (fun nm => by rw [show σ72 23 = σ 23 from ((f74 23 (by decide)).trans (f54 23 (by decide))), show σ72 64 = σ 64 from ((f74 64 (by decide)).trans (f54 64 (by decide))), show σ72 65 = σ 65 from ((f74 65 (by decide)).trans (f54 65 (by decide))), show (σ72 22 0).toInt = (σ 22 0).toInt from by omega]; exact hr12 nm)⟩ hP hS (lv_sub hl [0, 1, 2, 3] rfl)
set_option maxHeartbeats 4000000 in
set_option maxRecDepth 100000 in
theorem law_case_13 {p : Program} {e : Env} {s : State} {m : MethodId} {below : List Frame} {meth : Method} {c : Code} (l : Launch) {b L : Nat} {xs : Nat → Int32} {D : va_G} {cI cL : ClassId} {ad zz : Nat → Nat} (C0 : lw_At p s m meth c b L xs) (hJ : jD ad) (hA : ∀ q, jA ad q → s.heap.size ≤ q) (hK : jK D cI cL s) (hZ : jZ zz (fun q : Nat => s.heap.size ≤ q) s s.heap) {x0 : Int32} (hx0 : 0 ≤ x0.toInt) (hxL : x0.toInt + 6 ≤ (L : Int)) (hL : L ≤ 384) {σ : Nat → Nat → Int32} {τ : Nat → Nat → Int64} {H : Heap} {locs : List Loc} (hS : va_S (fun q : Nat => s.heap.size ≤ q) s.heap H locs) {ls : Array Slot} (hAll : jAll x0.toInt σ τ) (hP : jH D cI cL ad σ τ H) (hl : lv_has ls 4 [(3, .int x0), (2, .ref (ad 55)), (1, .ref (ad 0)), (0, .ref b)]) (ih : ∀ (x1 : Int32) (σ : Nat → Nat → Int32) (τ : Nat → Nat → Int64) (H : Heap) (locs : List Loc) (ls : Array Slot), x1.toInt = x0.toInt + 6 → jAll x1.toInt σ τ → jH D cI cL ad σ τ H → va_S (fun q : Nat => s.heap.size ≤ q) s.heap H locs → lv_has ls 4 [(3, .int x1), (2, .ref (ad 55)), (1, .ref (ad 0)), (0, .ref b)] → W p l e room_1 s m #[Value.ref b] below meth c H locs 90 348600 (lw_Z below #[Value.ref b] s) (F0 m 18 ls [])) : W p l e room_1 s m #[Value.ref b] below meth c H locs 90 348600 (lw_Z below #[Value.ref b] s) (F0 m 605 ls []) := by
  obtain ⟨hx, hb, hr, hml, hown, hts0, hX, hbl, hlocks, hgv⟩ := C0
  have hts : ∀ w ∈ wsL_law, w.before #[Value.ref b] s = true := fun w h => hts0 w (wsL_law_in w h)
  have hbA : ¬ (fun q : Nat => s.heap.size ≤ q) b := Nat.not_le.mpr hbl
  have hown : s.vm.findClass RL = some m.cls := hown
  obtain ⟨hI2, hI9, hI12, hI16, hI18, hI22, hI31, hI38, hI43, hI47, hI50, hI0, hI26, hI101, hI102, hI103, hI104, hI105, hI106, hI107, hI109, hI110, hI111, hI119, hs_jKept, hs_jBook, hs_jNd12, hs_jN67, hs_jBl, hs_jKb, hs_jTR, hs_jKh, hs_jKg, ht0, ht1, ht2, ht3, ht4, ht5, ht6, ht7, ht8, ht9, ht10, ht11, ht12, ht13, hr0, hr1, hr2, hr3, hr4, hr5, hr6, hr7, hr8, hr9, hr10, hr11, hr12⟩ := hAll
  have hL9 : (L : Int) ≤ 384 := by omega
  obtain ⟨i1, i2, i3, i4, i5, w6⟩ : (0 ≤ (σ 2 0).toInt ∧ (σ 2 0).toInt ≤ 4) ∧ (0 ≤ (σ 2 1).toInt ∧ (σ 2 1).toInt ≤ 3) ∧ (0 ≤ (σ 2 2).toInt) ∧ (0 ≤ (σ 2 3).toInt) ∧ ((σ 2 2).toInt + (σ 2 3).toInt ≤ 40) ∧ (∀ k : Nat, k < 40 → 0 ≤ (σ 6 k).toInt ∧ (σ 6 k).toInt ≤ 67) := id hI2
  obtain ⟨i7, w8, w9⟩ : (0 ≤ (σ 9 0).toInt ∧ (σ 9 0).toInt ≤ 80) ∧ (∀ k : Nat, k < 80 → 0 ≤ (σ 10 k).toInt ∧ (σ 10 k).toInt ≤ 255) ∧ (∀ k : Nat, k < 8 → 0 ≤ (σ 11 k).toInt ∧ (σ 11 k).toInt ≤ 3) := id hI9
  obtain ⟨i10, i11, i12, w13⟩ : (1 ≤ (σ 16 0).toInt ∧ (σ 16 0).toInt ≤ 8) ∧ (1 ≤ (σ 16 1).toInt ∧ (σ 16 1).toInt ≤ 12) ∧ (0 ≤ (σ 16 2).toInt ∧ (σ 16 2).toInt ≤ 999) ∧ (∀ k : Nat, k < 8 → 0 ≤ (σ 17 k).toInt ∧ (σ 17 k).toInt ≤ 3) := id hI16
  obtain ⟨i14, i15, w16⟩ : (0 ≤ (σ 38 0).toInt ∧ (σ 38 0).toInt ≤ 20) ∧ (0 ≤ (σ 38 1).toInt ∧ (σ 38 1).toInt ≤ 1000) ∧ (∀ k : Nat, k < 20 → 0 ≤ (σ 39 k).toInt ∧ (σ 39 k).toInt ≤ 6) := id hI38
  obtain ⟨i17, w18, w19⟩ : (0 ≤ (σ 47 0).toInt ∧ (σ 47 0).toInt ≤ 12) ∧ (∀ k : Nat, k < 12 → 0 ≤ (σ 48 k).toInt ∧ (σ 48 k).toInt ≤ 3) ∧ (∀ k : Nat, k < 12 → 0 ≤ (σ 49 k).toInt ∧ (σ 49 k).toInt ≤ 1) := id hI47
  have w20 : ∀ k : Nat, k < 6 → 0 ≤ (σ 52 k).toInt ∧ (σ 52 k).toInt ≤ 60 := hI50
  have i21 : 1 ≤ (σ 26 6).toInt ∧ (σ 26 6).toInt ≤ 8000 := hI26
  obtain ⟨i22, i23, i24, w25, w26, w27, w28⟩ : (0 ≤ (σ 55 5).toInt) ∧ ((σ 55 5).toInt ≤ (σ 55 4).toInt) ∧ ((σ 55 4).toInt ≤ 40) ∧ (∀ k : Nat, k < 68 → (-200) ≤ (σ 56 k).toInt ∧ (σ 56 k).toInt ≤ 500) ∧ (∀ k : Nat, k < 40 → 0 ≤ (σ 57 k).toInt ∧ (σ 57 k).toInt ≤ 67) ∧ (∀ k : Nat, k < 40 → (-200) ≤ (σ 58 k).toInt ∧ (σ 58 k).toInt ≤ 500) ∧ (∀ k : Nat, k < 40 → (-200) ≤ (σ 59 k).toInt ∧ (σ 59 k).toInt ≤ 500) := id hI101
  obtain ⟨i29, w30, w31⟩ : (0 ≤ (σ 55 6).toInt ∧ (σ 55 6).toInt ≤ 4) ∧ (∀ k : Nat, k < 4 → 0 ≤ (σ 60 k).toInt ∧ (σ 60 k).toInt ≤ 50) ∧ (∀ k : Nat, k < 4 → 0 ≤ (σ 61 k).toInt ∧ (σ 61 k).toInt ≤ 20) := id hI102
  have i32 : 0 ≤ (σ 55 9).toInt ∧ (σ 55 9).toInt ≤ 3 := hI103
  obtain ⟨i33, i34, i35, w36, w37⟩ : (1 ≤ (σ 55 10).toInt ∧ (σ 55 10).toInt ≤ 8) ∧ (1 ≤ (σ 55 12).toInt ∧ (σ 55 12).toInt ≤ 12) ∧ (0 ≤ (σ 55 13).toInt ∧ (σ 55 13).toInt ≤ 999) ∧ (∀ k : Nat, k < 8 → 0 ≤ (σ 62 k).toInt ∧ (σ 62 k).toInt ≤ 3) ∧ (∀ k : Nat, k < 8 → 0 ≤ (σ 67 k).toInt ∧ (σ 67 k).toInt ≤ 3) := id hI104
  obtain ⟨i38, w39⟩ : (0 ≤ (σ 55 15).toInt ∧ (σ 55 15).toInt ≤ 80) ∧ (∀ k : Nat, k < 2 → (-1) ≤ (σ 65 k).toInt ∧ (σ 65 k).toInt ≤ 80) := id hI105
  obtain ⟨i40, w41, w42, w43⟩ : (0 ≤ (σ 55 32).toInt ∧ (σ 55 32).toInt ≤ 20) ∧ (∀ k : Nat, k < 20 → 0 ≤ (σ 70 k).toInt ∧ (σ 70 k).toInt ≤ 6) ∧ (∀ k : Nat, k < 20 → 0 ≤ (σ 71 k).toInt ∧ (σ 71 k).toInt ≤ 8) ∧ (∀ k : Nat, k < 160 → 0 ≤ (σ 72 k).toInt ∧ (σ 72 k).toInt ≤ 3) := id hI106
  obtain ⟨i44, i45, w46⟩ : (0 ≤ (σ 55 47).toInt ∧ (σ 55 47).toInt ≤ 12) ∧ ((σ 55 47).toInt ≤ (σ 55 12).toInt) ∧ (∀ k : Nat, k < 12 → 0 ≤ (σ 80 k).toInt ∧ (σ 80 k).toInt ≤ 3) := id hI107
  have hs_jOk3 : jOk3 σ := hr0.ok hr1.1
  refine lv_aload_n hx hb dL_law_605 rfl (lv_at hl 2 rfl) ?_
  refine lv_aload_n hx hb dL_law_606 rfl (lv_at hl 3 rfl) ?_
  refine lv_iload_n hx hb dL_law_607 rfl (lv_at hl 0 rfl) ?_
  refine lv_iconst (v := 1) hx hb dL_law_608 (by decide) ?_
  have g47 := jrg (rfl : x0.toInt = x0.toInt)
  refine lv_iadd hx hb dL_law_609 ?_
  refine lv_topi (fun x48 ex48 => ?_)
  have tx48 : x48.toInt = x0.toInt + 1 := (jadd ex48 rfl jz_1 (by omega) (by omega)).trans (by omega)
  refine va_sld hx hb hX hbl hbA hS (jin tx48 (by omega) (by omega)) dL_law_610 ?_
  have g49 := jrg (rfl : (xs x48.toNatClampNeg).toInt = (xs x48.toNatClampNeg).toInt)
  refine jcallV (As := [.int (xs x48.toNatClampNeg)]) (rest := []) ⟨hx, hb, hml, hown, hts⟩ hK hP hA hS hZ (c_X11_best l D cI cL ad zz hJ σ τ (xs x48.toNatClampNeg) ((xs x48.toNatClampNeg).toInt) rfl hI2 hI16 hI22 hI31 hI47 hI26 hs_jN67 hs_jBl hs_jKb hs_jKh hs_jKg) cw_RL_69 (jc_0 cI cL ad σ τ) rfl ⟨Nat.le_of_ble_eq_true rfl, Nat.le_of_ble_eq_true rfl⟩ rfl rfl rfl hl.1 rfl (Nat.le_of_ble_eq_true rfl) dL_law_611 ⟨Nat.le_of_ble_eq_true rfl, Nat.le_of_ble_eq_true rfl⟩ (fun r51 σ50 τ50 H locs h50 hP hS => ?_)
  obtain ⟨rfl, f52, f53, I54, p55, p56, p57, p58, p59, h50⟩ := h50
  refine lv_pop hx hb dL_law_614 rfl ?_
  refine lv_aload_n hx hb dL_law_615 rfl (lv_at hl 1 rfl) ?_
  refine lv_aload_n hx hb dL_law_616 rfl (lv_at hl 3 rfl) ?_
  refine lv_iload_n hx hb dL_law_617 rfl (lv_at hl 0 rfl) ?_
  refine lv_iconst (v := 1) hx hb dL_law_618 (by decide) ?_
  refine lv_iadd hx hb dL_law_619 ?_
  refine jtopr ex48.symm ?_
  refine va_sld hx hb hX hbl hbA hS (jin tx48 (by omega) (by omega)) dL_law_620 ?_
  have I61 : jI101 σ50 := jI101_fr (congrFun (f52 55 (by decide)) 4) (congrFun (f52 55 (by decide)) 5) (f52 56 (by decide)) (f52 57 (by decide)) (f52 58 (by decide)) (f52 59 (by decide)) hI101
  have I62 : jI102 σ50 := jI102_fr (congrFun (f52 55 (by decide)) 6) (f52 60 (by decide)) (f52 61 (by decide)) hI102
  have I63 : jI103 σ50 := jI103_fr (congrFun (f52 55 (by decide)) 9) hI103
  have I64 : jI104 σ50 := jI104_fr (congrFun (f52 55 (by decide)) 10) (congrFun (f52 55 (by decide)) 12) (congrFun (f52 55 (by decide)) 13) (f52 62 (by decide)) (f52 67 (by decide)) hI104
  have I65 : jI105 σ50 := jI105_fr (congrFun (f52 55 (by decide)) 15) (f52 65 (by decide)) hI105
  have I66 : jI106 σ50 := jI106_fr (congrFun (f52 55 (by decide)) 32) (f52 70 (by decide)) (f52 71 (by decide)) (f52 72 (by decide)) hI106
  have I67 : jI107 σ50 := jI107_fr (congrFun (f52 55 (by decide)) 12) (congrFun (f52 55 (by decide)) 47) (f52 80 (by decide)) hI107
  have I68 : jI119 σ50 := jI119_fr (f52 68 (by decide)) hI119
  have p69 : jKept σ50 := jKept.fr (f52 75 (by decide)) (f52 76 (by decide)) (f52 77 (by decide)) hs_jKept
  have p70 : jBook σ50 := jBook.fr (congrFun (f52 55 (by decide)) 47) (congrFun (f52 55 (by decide)) 10) (f52 81 (by decide)) hs_jBook
  have p71 : jTR σ50 := jTR.fr (f52 64 (by decide)) (f52 65 (by decide)) hs_jTR
  refine jcallV (As := [.int (xs x48.toNatClampNeg)]) (rest := []) ⟨hx, hb, hml, hown, hts⟩ hK hP hA hS hZ (c_X12_best l D cI cL ad zz hJ σ50 τ (xs x48.toNatClampNeg) ((xs x48.toNatClampNeg).toInt) rfl I61 I62 I63 I64 I65 I66 I67 I68 p69 p70 p71) cw_RL_72 (jc_55 cI cL ad σ50 τ) rfl ⟨Nat.le_of_ble_eq_true rfl, Nat.le_of_ble_eq_true rfl⟩ rfl rfl rfl hl.1 rfl (Nat.le_of_ble_eq_true rfl) dL_law_621 ⟨Nat.le_of_ble_eq_true rfl, Nat.le_of_ble_eq_true rfl⟩ (fun r73 σ72 τ72 H locs h72 hP hS => ?_)
  obtain ⟨rfl, f74, f75, I76, p77, p78, p79, h72⟩ := h72
  refine lv_pop hx hb dL_law_624 rfl ?_
  refine lv_goto (tgt := 1357) hx hb dL_law_625 (by decide) ?_
  obtain ⟨x81, ex81⟩ : ∃ y : Int32, y = x0 + 6 := ⟨_, rfl⟩
  have tx81 : x81.toInt = x0.toInt + 6 := (jadd ex81 rfl jz_6 (by omega) (by omega)).trans (by omega)
  refine lv_iinc (v := x81) (lv' := [(3, .int x81), (2, .ref (ad 55)), (1, .ref (ad 0)), (0, .ref b)]) hx hb dL_law_1357 hl (k := 0) rfl (by rw [ex81]; rfl) (by decide) rfl (fun ls hl => ?_)
  refine lv_goto (tgt := 18) hx hb dL_law_1360 (by decide) ?_
  have I82 : jI2 σ72 := jI2_fr ((congrFun (f74 2 (by decide)) 0).trans (congrFun (f52 2 (by decide)) 0)) ((congrFun (f74 2 (by decide)) 1).trans (congrFun (f52 2 (by decide)) 1)) ((congrFun (f74 2 (by decide)) 2).trans (congrFun (f52 2 (by decide)) 2)) ((congrFun (f74 2 (by decide)) 3).trans (congrFun (f52 2 (by decide)) 3)) ((f74 6 (by decide)).trans (f52 6 (by decide))) hI2
  have I83 : jI9 σ72 := jI9_fr ((congrFun (f74 9 (by decide)) 0).trans (congrFun (f52 9 (by decide)) 0)) ((f74 10 (by decide)).trans (f52 10 (by decide))) ((f74 11 (by decide)).trans (f52 11 (by decide))) hI9
  have I84 : jI12 σ72 := jI12_fr ((congrFun (f74 12 (by decide)) 0).trans (congrFun (f52 12 (by decide)) 0)) ((f74 13 (by decide)).trans (f52 13 (by decide))) hI12
  have I85 : jI16 σ72 := jI16_fr ((congrFun (f74 16 (by decide)) 0).trans (congrFun (f52 16 (by decide)) 0)) ((congrFun (f74 16 (by decide)) 1).trans (congrFun (f52 16 (by decide)) 1)) ((congrFun (f74 16 (by decide)) 2).trans (congrFun (f52 16 (by decide)) 2)) ((f74 17 (by decide)).trans (f52 17 (by decide))) hI16
  have I86 : jI18 σ72 := jI18_fr ((congrFun (f74 18 (by decide)) 0).trans (congrFun (f52 18 (by decide)) 0)) ((f74 19 (by decide)).trans (f52 19 (by decide))) hI18
  have I87 : jI22 σ72 := jI22_fr ((congrFun (f74 22 (by decide)) 0).trans (congrFun (f52 22 (by decide)) 0)) ((f74 23 (by decide)).trans (f52 23 (by decide))) hI22
  have I88 : jI31 σ72 := jI31_fr (congrFun (f74 31 (by decide)) 8) (congrFun (f74 31 (by decide)) 10) (congrFun (f74 31 (by decide)) 11) (f74 33 (by decide)) (f74 35 (by decide)) (f74 36 (by decide)) I54
  have I89 : jI38 σ72 := jI38_fr ((congrFun (f74 38 (by decide)) 0).trans (congrFun (f52 38 (by decide)) 0)) ((congrFun (f74 38 (by decide)) 1).trans (congrFun (f52 38 (by decide)) 1)) ((f74 39 (by decide)).trans (f52 39 (by decide))) hI38
  have I90 : jI43 σ72 := jI43_fr ((congrFun (f74 43 (by decide)) 8).trans (congrFun (f52 43 (by decide)) 8)) hI43
  have I91 : jI47 σ72 := jI47_fr ((congrFun (f74 47 (by decide)) 0).trans (congrFun (f52 47 (by decide)) 0)) ((f74 48 (by decide)).trans (f52 48 (by decide))) ((f74 49 (by decide)).trans (f52 49 (by decide))) hI47
  have I92 : jI50 σ72 := jI50_fr ((f74 52 (by decide)).trans (f52 52 (by decide))) hI50
  have I93 : jI0 σ72 := jI0_fr ((f74 1 (by decide)).trans (f52 1 (by decide))) hI0
  have I94 : jI26 σ72 := jI26_fr ((congrFun (f74 26 (by decide)) 6).trans (congrFun (f52 26 (by decide)) 6)) hI26
  have I95 : jI101 σ72 := jI101_fr (f75 4 (by decide)) (f75 5 (by decide)) (f74 56 (by decide)) (f74 57 (by decide)) (f74 58 (by decide)) (f74 59 (by decide)) I61
  have I96 : jI102 σ72 := jI102_fr (f75 6 (by decide)) (f74 60 (by decide)) (f74 61 (by decide)) I62
  have I97 : jI103 σ72 := jI103_fr (f75 9 (by decide)) I63
  have I98 : jI104 σ72 := jI104_fr (f75 10 (by decide)) (f75 12 (by decide)) (f75 13 (by decide)) (f74 62 (by decide)) (f74 67 (by decide)) I64
  have I99 : jI105 σ72 := jI105_fr (f75 15 (by decide)) (f74 65 (by decide)) I65
  have I100 : jI106 σ72 := jI106_fr (f75 32 (by decide)) (f74 70 (by decide)) (f74 71 (by decide)) (f74 72 (by decide)) I66
  have I101 : jI107 σ72 := jI107_fr (f75 12 (by decide)) (f75 47 (by decide)) (f74 80 (by decide)) I67
  have I102 : jI109 σ72 := jI109_fr ((f75 50 (by decide)).trans (congrFun (f52 55 (by decide)) 50)) hI109
  have I103 : jI110 σ72 := jI110_fr ((f74 86 (by decide)).trans (f52 86 (by decide))) ((f74 87 (by decide)).trans (f52 87 (by decide))) hI110
  have I104 : jI111 σ72 := jI111_fr ((f74 79 (by decide)).trans (f52 79 (by decide))) hI111
  have p105 : jNd12 σ72 := jNd12.fr ((congrFun (f74 12 (by decide)) 0).trans (congrFun (f52 12 (by decide)) 0)) ((congrFun (f74 12 (by decide)) 1).trans (congrFun (f52 12 (by decide)) 1)) ((f74 13 (by decide)).trans (f52 13 (by decide))) hs_jNd12
  have p106 : jN67 σ72 := jN67.fr (f74 24 (by decide)) p55
  have p107 : jBl σ72 := jBl.fr (congrFun (f74 22 (by decide)) 0) (congrFun (f74 22 (by decide)) 1) (f74 23 (by decide)) (congrFun (f74 26 (by decide)) 6) (congrFun (f74 26 (by decide)) 7) (f74 29 (by decide)) (f74 30 (by decide)) p56
  have p108 : jKb σ72 := jKb.fr (congrFun (f74 31 (by decide)) 8) (congrFun (f74 31 (by decide)) 11) (f74 32 (by decide)) p57
  have p109 : jKh σ72 := jKh.fr (congrFun (f74 31 (by decide)) 8) (f74 32 (by decide)) (f74 36 (by decide)) (f74 37 (by decide)) p58
  have p110 : jKg σ72 := jKg.fr (congrFun (f74 31 (by decide)) 8) (congrFun (f74 31 (by decide)) 9) (congrFun (f74 31 (by decide)) 11) (congrFun (f74 31 (by decide)) 12) (f74 32 (by decide)) (f74 33 (by decide)) p59
  have z111 : (σ72 2 0).toInt = (σ 2 0).toInt := (congrArg Int32.toInt (show σ72 2 0 = (σ 2 0) from ((congrFun (f74 2 (by decide)) 0).trans (congrFun (f52 2 (by decide)) 0))))
  have z112 : (σ72 55 6).toInt = (σ 55 6).toInt := (congrArg Int32.toInt (show σ72 55 6 = (σ 55 6) from ((f75 6 (by decide)).trans (congrFun (f52 55 (by decide)) 6))))
  have z113 : (σ72 2 2).toInt = (σ 2 2).toInt := (congrArg Int32.toInt (show σ72 2 2 = (σ 2 2) from ((congrFun (f74 2 (by decide)) 2).trans (congrFun (f52 2 (by decide)) 2))))
  have z114 : (σ72 55 5).toInt = (σ 55 5).toInt := (congrArg Int32.toInt (show σ72 55 5 = (σ 55 5) from ((f75 5 (by decide)).trans (congrFun (f52 55 (by decide)) 5))))
  have z115 : (σ72 2 3).toInt = (σ 2 3).toInt := (congrArg Int32.toInt (show σ72 2 3 = (σ 2 3) from ((congrFun (f74 2 (by decide)) 3).trans (congrFun (f52 2 (by decide)) 3))))
  have z116 : (σ72 55 4).toInt = (σ 55 4).toInt := (congrArg Int32.toInt (show σ72 55 4 = (σ 55 4) from ((f75 4 (by decide)).trans (congrFun (f52 55 (by decide)) 4))))
  have z117 : (σ72 9 0).toInt = (σ 9 0).toInt := (congrArg Int32.toInt (show σ72 9 0 = (σ 9 0) from ((congrFun (f74 9 (by decide)) 0).trans (congrFun (f52 9 (by decide)) 0))))
  have z118 : (σ72 55 15).toInt = (σ 55 15).toInt := (congrArg Int32.toInt (show σ72 55 15 = (σ 55 15) from ((f75 15 (by decide)).trans (congrFun (f52 55 (by decide)) 15))))
  have z119 : (σ72 16 0).toInt = (σ 16 0).toInt := (congrArg Int32.toInt (show σ72 16 0 = (σ 16 0) from ((congrFun (f74 16 (by decide)) 0).trans (congrFun (f52 16 (by decide)) 0))))
  have z120 : (σ72 55 10).toInt = (σ 55 10).toInt := (congrArg Int32.toInt (show σ72 55 10 = (σ 55 10) from ((f75 10 (by decide)).trans (congrFun (f52 55 (by decide)) 10))))
  have z121 : (σ72 16 1).toInt = (σ 16 1).toInt := (congrArg Int32.toInt (show σ72 16 1 = (σ 16 1) from ((congrFun (f74 16 (by decide)) 1).trans (congrFun (f52 16 (by decide)) 1))))
  have z122 : (σ72 55 12).toInt = (σ 55 12).toInt := (congrArg Int32.toInt (show σ72 55 12 = (σ 55 12) from ((f75 12 (by decide)).trans (congrFun (f52 55 (by decide)) 12))))
  have z123 : (σ72 16 2).toInt = (σ 16 2).toInt := (congrArg Int32.toInt (show σ72 16 2 = (σ 16 2) from ((congrFun (f74 16 (by decide)) 2).trans (congrFun (f52 16 (by decide)) 2))))
  have z124 : (σ72 55 13).toInt = (σ 55 13).toInt := (congrArg Int32.toInt (show σ72 55 13 = (σ 55 13) from ((f75 13 (by decide)).trans (congrFun (f52 55 (by decide)) 13))))
  have z125 : (σ72 38 0).toInt = (σ 38 0).toInt := (congrArg Int32.toInt (show σ72 38 0 = (σ 38 0) from ((congrFun (f74 38 (by decide)) 0).trans (congrFun (f52 38 (by decide)) 0))))
  have z126 : (σ72 55 32).toInt = (σ 55 32).toInt := (congrArg Int32.toInt (show σ72 55 32 = (σ 55 32) from ((f75 32 (by decide)).trans (congrFun (f52 55 (by decide)) 32))))
  have z127 : (σ72 38 1).toInt = (σ 38 1).toInt := (congrArg Int32.toInt (show σ72 38 1 = (σ 38 1) from ((congrFun (f74 38 (by decide)) 1).trans (congrFun (f52 38 (by decide)) 1))))
  have z128 : (σ72 55 55).toInt = (σ 55 55).toInt := (congrArg Int32.toInt (show σ72 55 55 = (σ 55 55) from ((f75 55 (by decide)).trans (congrFun (f52 55 (by decide)) 55))))
  have z129 : (σ72 47 0).toInt = (σ 47 0).toInt := (congrArg Int32.toInt (show σ72 47 0 = (σ 47 0) from ((congrFun (f74 47 (by decide)) 0).trans (congrFun (f52 47 (by decide)) 0))))
  have z130 : (σ72 55 47).toInt = (σ 55 47).toInt := (congrArg Int32.toInt (show σ72 55 47 = (σ 55 47) from ((f75 47 (by decide)).trans (congrFun (f52 55 (by decide)) 47))))
  have z131 : (σ72 55 30).toInt = (σ 55 30).toInt := (congrArg Int32.toInt (show σ72 55 30 = (σ 55 30) from ((f75 30 (by decide)).trans (congrFun (f52 55 (by decide)) 30))))
  have z132 : (σ72 55 31).toInt = (σ 55 31).toInt := (congrArg Int32.toInt (show σ72 55 31 = (σ 55 31) from ((f75 31 (by decide)).trans (congrFun (f52 55 (by decide)) 31))))
  have z133 : (σ72 2 1).toInt = (σ 2 1).toInt := (congrArg Int32.toInt (show σ72 2 1 = (σ 2 1) from ((congrFun (f74 2 (by decide)) 1).trans (congrFun (f52 2 (by decide)) 1))))
  have z134 : (σ72 55 9).toInt = (σ 55 9).toInt := (congrArg Int32.toInt (show σ72 55 9 = (σ 55 9) from ((f75 9 (by decide)).trans (congrFun (f52 55 (by decide)) 9))))
  have z135 : (σ72 26 6).toInt = (σ 26 6).toInt := (congrArg Int32.toInt (show σ72 26 6 = (σ 26 6) from ((congrFun (f74 26 (by decide)) 6).trans (congrFun (f52 26 (by decide)) 6))))
  have z137 : (σ72 18 0).toInt = (σ 18 0).toInt := (congrArg Int32.toInt (show σ72 18 0 = (σ 18 0) from ((congrFun (f74 18 (by decide)) 0).trans (congrFun (f52 18 (by decide)) 0))))
  have z138 : (σ72 22 0).toInt = (σ 22 0).toInt := (congrArg Int32.toInt (show σ72 22 0 = (σ 22 0) from ((congrFun (f74 22 (by decide)) 0).trans (congrFun (f52 22 (by decide)) 0))))
  exact ih x81 σ72 τ _ _ ls (by have h9 := tx81; omega) ⟨I82, I83, I84, I85, I86, I87, I88, I89, I90, I91, I92, I93, I94, I95, I96, I97, I98, I99, I100, I101, I102, I103, I104, I76, p77, p78, p105, p106, p107, p108, p79, p109, p110, (by omega), (by omega), (by omega), (by omega), (by omega), (by omega), (by omega), (by omega), (by omega), (by omega), (by omega), (by omega), (by omega), (by have h9 := tx81; omega), (show jNumP (σ72 3) (σ72 56) (σ72 6) (σ72 57) (σ72 7) (σ72 58) (σ72 8) (σ72 59) (σ72 55 6).toInt (σ72 55 4).toInt by rw [show σ72 3 = σ 3 from ((f74 3 (by decide)).trans (f52 3 (by decide))), show σ72 56 = σ 56 from ((f74 56 (by decide)).trans (f52 56 (by decide))), show σ72 6 = σ 6 from ((f74 6 (by decide)).trans (f52 6 (by decide))), show σ72 57 = σ 57 from ((f74 57 (by decide)).trans (f52 57 (by decide))), show σ72 7 = σ 7 from ((f74 7 (by decide)).trans (f52 7 (by decide))), show σ72 58 = σ 58 from ((f74 58 (by decide)).trans (f52 58 (by decide))), show σ72 8 = σ 8 from ((f74 8 (by decide)).trans (f52 8 (by decide))), show σ72 59 = σ 59 from ((f74 59 (by decide)).trans (f52 59 (by decide))), show (σ72 55 6).toInt = (σ 55 6).toInt from by omega, show (σ72 55 4).toInt = (σ 55 4).toInt from by omega]; exact hr0), (show jOvP (σ72 56) (σ72 57) (σ72 58) (σ72 59) (σ72 55 4).toInt by rw [show σ72 56 = σ 56 from ((f74 56 (by decide)).trans (f52 56 (by decide))), show σ72 57 = σ 57 from ((f74 57 (by decide)).trans (f52 57 (by decide))), show σ72 58 = σ 58 from ((f74 58 (by decide)).trans (f52 58 (by decide))), show σ72 59 = σ 59 from ((f74 59 (by decide)).trans (f52 59 (by decide))), show (σ72 55 4).toInt = (σ 55 4).toInt from by omega]; exact hr1), (show jTp (σ72 10) (σ72 63) (σ72 55 15).toInt by rw [show σ72 10 = σ 10 from ((f74 10 (by decide)).trans (f52 10 (by decide))), show σ72 63 = σ 63 from ((f74 63 (by decide)).trans (f52 63 (by decide)))]; exact hr2.le (by omega)), (show jSo (σ72 17) (σ72 62) (σ72 16 0).toInt by rw [show σ72 17 = σ 17 from ((f74 17 (by decide)).trans (f52 17 (by decide))), show σ72 62 = σ 62 from ((f74 62 (by decide)).trans (f52 62 (by decide))), show (σ72 16 0).toInt = (σ 16 0).toInt from by omega]; exact hr3), (show jShP (σ72 51) (σ72 52) (σ72 53) (σ72 86) (σ72 87) (σ72 55 32).toInt by rw [show σ72 51 = σ 51 from ((f74 51 (by decide)).trans (f52 51 (by decide))), show σ72 52 = σ 52 from ((f74 52 (by decide)).trans (f52 52 (by decide))), show σ72 53 = σ 53 from ((f74 53 (by decide)).trans (f52 53 (by decide))), show σ72 86 = σ 86 from ((f74 86 (by decide)).trans (f52 86 (by decide))), show σ72 87 = σ 87 from ((f74 87 (by decide)).trans (f52 87 (by decide)))]; exact (hr4.up (by omega) (by omega))), (show jEl (σ72 51) (σ72 52) (τ 54) (τ 88) by rw [show σ72 51 = σ 51 from ((f74 51 (by decide)).trans (f52 51 (by decide))), show σ72 52 = σ 52 from ((f74 52 (by decide)).trans (f52 52 (by decide)))]; exact hr5), (show jByP (σ72 51) (σ72 52) (τ 54) by rw [show σ72 51 = σ 51 from ((f74 51 (by decide)).trans (f52 51 (by decide))), show σ72 52 = σ 52 from ((f74 52 (by decide)).trans (f52 52 (by decide)))]; exact hr6), (show jBk (σ72 48) (σ72 80) (σ72 49) (σ72 81) (σ72 55 47).toInt by rw [show σ72 48 = σ 48 from ((f74 48 (by decide)).trans (f52 48 (by decide))), show σ72 49 = σ 49 from ((f74 49 (by decide)).trans (f52 49 (by decide))), show σ72 80 = σ 80 from ((f74 80 (by decide)).trans (f52 80 (by decide))), show σ72 81 = σ 81 from ((f74 81 (by decide)).trans (f52 81 (by decide))), show (σ72 55 47).toInt = (σ 55 47).toInt from by omega]; exact hr7), (show jKd (σ72 39) (σ72 70) (σ72 55 32).toInt by rw [show σ72 39 = σ 39 from ((f74 39 (by decide)).trans (f52 39 (by decide))), show σ72 70 = σ 70 from ((f74 70 (by decide)).trans (f52 70 (by decide))), show (σ72 55 32).toInt = (σ 55 32).toInt from by omega]; exact hr8), (show jTt (σ72 42) (σ72 85) (σ72 55 55).toInt by rw [show σ72 42 = σ 42 from ((f74 42 (by decide)).trans (f52 42 (by decide))), show σ72 85 = σ 85 from ((f74 85 (by decide)).trans (f52 85 (by decide))), show (σ72 55 55).toInt = (σ 55 55).toInt from by omega]; exact hr9), (fun k hk => by rw [show σ72 4 = σ 4 from ((f74 4 (by decide)).trans (f52 4 (by decide))), show σ72 5 = σ 5 from ((f74 5 (by decide)).trans (f52 5 (by decide))), show σ72 60 = σ 60 from ((f74 60 (by decide)).trans (f52 60 (by decide))), show σ72 61 = σ 61 from ((f74 61 (by decide)).trans (f52 61 (by decide)))]; exact hr10 k (by omega)), (fun nm => by rw [show σ72 19 = σ 19 from ((f74 19 (by decide)).trans (f52 19 (by decide))), show σ72 64 = σ 64 from ((f74 64 (by decide)).trans (f52 64 (by decide))), show σ72 65 = σ 65 from ((f74 65 (by decide)).trans (f52 65 (by decide))), show (σ72 18 0).toInt = (σ 18 0).toInt from by omega]; exact hr11 nm), (fun nm => by rw [show σ72 23 = σ 23 from ((f74 23 (by decide)).trans (f52 23 (by decide))), show σ72 64 = σ 64 from ((f74 64 (by decide)).trans (f52 64 (by decide))), show σ72 65 = σ 65 from ((f74 65 (by decide)).trans (f52 65 (by decide))), show (σ72 22 0).toInt = (σ 22 0).toInt from by omega]; exact hr12 nm)⟩ hP hS (lv_sub hl [0, 1, 2, 3] rfl)
set_option maxHeartbeats 4000000 in
set_option maxRecDepth 100000 in
theorem law_case_14 {p : Program} {e : Env} {s : State} {m : MethodId} {below : List Frame} {meth : Method} {c : Code} (l : Launch) {b L : Nat} {xs : Nat → Int32} {D : va_G} {cI cL : ClassId} {ad zz : Nat → Nat} (C0 : lw_At p s m meth c b L xs) (hJ : jD ad) (hA : ∀ q, jA ad q → s.heap.size ≤ q) (hK : jK D cI cL s) (hZ : jZ zz (fun q : Nat => s.heap.size ≤ q) s s.heap) {x0 : Int32} (hx0 : 0 ≤ x0.toInt) (hxL : x0.toInt + 6 ≤ (L : Int)) (hL : L ≤ 384) {σ : Nat → Nat → Int32} {τ : Nat → Nat → Int64} {H : Heap} {locs : List Loc} (hS : va_S (fun q : Nat => s.heap.size ≤ q) s.heap H locs) {ls : Array Slot} (hAll : jAll x0.toInt σ τ) (hP : jH D cI cL ad σ τ H) (hl : lv_has ls 4 [(3, .int x0), (2, .ref (ad 55)), (1, .ref (ad 0)), (0, .ref b)]) (ih : ∀ (x1 : Int32) (σ : Nat → Nat → Int32) (τ : Nat → Nat → Int64) (H : Heap) (locs : List Loc) (ls : Array Slot), x1.toInt = x0.toInt + 6 → jAll x1.toInt σ τ → jH D cI cL ad σ τ H → va_S (fun q : Nat => s.heap.size ≤ q) s.heap H locs → lv_has ls 4 [(3, .int x1), (2, .ref (ad 55)), (1, .ref (ad 0)), (0, .ref b)] → W p l e room_1 s m #[Value.ref b] below meth c H locs 90 348600 (lw_Z below #[Value.ref b] s) (F0 m 18 ls [])) : W p l e room_1 s m #[Value.ref b] below meth c H locs 90 348600 (lw_Z below #[Value.ref b] s) (F0 m 628 ls []) := by
  obtain ⟨hx, hb, hr, hml, hown, hts0, hX, hbl, hlocks, hgv⟩ := C0
  have hts : ∀ w ∈ wsL_law, w.before #[Value.ref b] s = true := fun w h => hts0 w (wsL_law_in w h)
  have hbA : ¬ (fun q : Nat => s.heap.size ≤ q) b := Nat.not_le.mpr hbl
  have hown : s.vm.findClass RL = some m.cls := hown
  obtain ⟨hI2, hI9, hI12, hI16, hI18, hI22, hI31, hI38, hI43, hI47, hI50, hI0, hI26, hI101, hI102, hI103, hI104, hI105, hI106, hI107, hI109, hI110, hI111, hI119, hs_jKept, hs_jBook, hs_jNd12, hs_jN67, hs_jBl, hs_jKb, hs_jTR, hs_jKh, hs_jKg, ht0, ht1, ht2, ht3, ht4, ht5, ht6, ht7, ht8, ht9, ht10, ht11, ht12, ht13, hr0, hr1, hr2, hr3, hr4, hr5, hr6, hr7, hr8, hr9, hr10, hr11, hr12⟩ := hAll
  have hL9 : (L : Int) ≤ 384 := by omega
  obtain ⟨i1, i2, i3, i4, i5, w6⟩ : (0 ≤ (σ 2 0).toInt ∧ (σ 2 0).toInt ≤ 4) ∧ (0 ≤ (σ 2 1).toInt ∧ (σ 2 1).toInt ≤ 3) ∧ (0 ≤ (σ 2 2).toInt) ∧ (0 ≤ (σ 2 3).toInt) ∧ ((σ 2 2).toInt + (σ 2 3).toInt ≤ 40) ∧ (∀ k : Nat, k < 40 → 0 ≤ (σ 6 k).toInt ∧ (σ 6 k).toInt ≤ 67) := id hI2
  obtain ⟨i7, w8, w9⟩ : (0 ≤ (σ 9 0).toInt ∧ (σ 9 0).toInt ≤ 80) ∧ (∀ k : Nat, k < 80 → 0 ≤ (σ 10 k).toInt ∧ (σ 10 k).toInt ≤ 255) ∧ (∀ k : Nat, k < 8 → 0 ≤ (σ 11 k).toInt ∧ (σ 11 k).toInt ≤ 3) := id hI9
  obtain ⟨i10, i11, i12, w13⟩ : (1 ≤ (σ 16 0).toInt ∧ (σ 16 0).toInt ≤ 8) ∧ (1 ≤ (σ 16 1).toInt ∧ (σ 16 1).toInt ≤ 12) ∧ (0 ≤ (σ 16 2).toInt ∧ (σ 16 2).toInt ≤ 999) ∧ (∀ k : Nat, k < 8 → 0 ≤ (σ 17 k).toInt ∧ (σ 17 k).toInt ≤ 3) := id hI16
  obtain ⟨i14, i15, w16⟩ : (0 ≤ (σ 38 0).toInt ∧ (σ 38 0).toInt ≤ 20) ∧ (0 ≤ (σ 38 1).toInt ∧ (σ 38 1).toInt ≤ 1000) ∧ (∀ k : Nat, k < 20 → 0 ≤ (σ 39 k).toInt ∧ (σ 39 k).toInt ≤ 6) := id hI38
  obtain ⟨i17, w18, w19⟩ : (0 ≤ (σ 47 0).toInt ∧ (σ 47 0).toInt ≤ 12) ∧ (∀ k : Nat, k < 12 → 0 ≤ (σ 48 k).toInt ∧ (σ 48 k).toInt ≤ 3) ∧ (∀ k : Nat, k < 12 → 0 ≤ (σ 49 k).toInt ∧ (σ 49 k).toInt ≤ 1) := id hI47
  have w20 : ∀ k : Nat, k < 6 → 0 ≤ (σ 52 k).toInt ∧ (σ 52 k).toInt ≤ 60 := hI50
  have i21 : 1 ≤ (σ 26 6).toInt ∧ (σ 26 6).toInt ≤ 8000 := hI26
  obtain ⟨i22, i23, i24, w25, w26, w27, w28⟩ : (0 ≤ (σ 55 5).toInt) ∧ ((σ 55 5).toInt ≤ (σ 55 4).toInt) ∧ ((σ 55 4).toInt ≤ 40) ∧ (∀ k : Nat, k < 68 → (-200) ≤ (σ 56 k).toInt ∧ (σ 56 k).toInt ≤ 500) ∧ (∀ k : Nat, k < 40 → 0 ≤ (σ 57 k).toInt ∧ (σ 57 k).toInt ≤ 67) ∧ (∀ k : Nat, k < 40 → (-200) ≤ (σ 58 k).toInt ∧ (σ 58 k).toInt ≤ 500) ∧ (∀ k : Nat, k < 40 → (-200) ≤ (σ 59 k).toInt ∧ (σ 59 k).toInt ≤ 500) := id hI101
  obtain ⟨i29, w30, w31⟩ : (0 ≤ (σ 55 6).toInt ∧ (σ 55 6).toInt ≤ 4) ∧ (∀ k : Nat, k < 4 → 0 ≤ (σ 60 k).toInt ∧ (σ 60 k).toInt ≤ 50) ∧ (∀ k : Nat, k < 4 → 0 ≤ (σ 61 k).toInt ∧ (σ 61 k).toInt ≤ 20) := id hI102
  have i32 : 0 ≤ (σ 55 9).toInt ∧ (σ 55 9).toInt ≤ 3 := hI103
  obtain ⟨i33, i34, i35, w36, w37⟩ : (1 ≤ (σ 55 10).toInt ∧ (σ 55 10).toInt ≤ 8) ∧ (1 ≤ (σ 55 12).toInt ∧ (σ 55 12).toInt ≤ 12) ∧ (0 ≤ (σ 55 13).toInt ∧ (σ 55 13).toInt ≤ 999) ∧ (∀ k : Nat, k < 8 → 0 ≤ (σ 62 k).toInt ∧ (σ 62 k).toInt ≤ 3) ∧ (∀ k : Nat, k < 8 → 0 ≤ (σ 67 k).toInt ∧ (σ 67 k).toInt ≤ 3) := id hI104
  obtain ⟨i38, w39⟩ : (0 ≤ (σ 55 15).toInt ∧ (σ 55 15).toInt ≤ 80) ∧ (∀ k : Nat, k < 2 → (-1) ≤ (σ 65 k).toInt ∧ (σ 65 k).toInt ≤ 80) := id hI105
  obtain ⟨i40, w41, w42, w43⟩ : (0 ≤ (σ 55 32).toInt ∧ (σ 55 32).toInt ≤ 20) ∧ (∀ k : Nat, k < 20 → 0 ≤ (σ 70 k).toInt ∧ (σ 70 k).toInt ≤ 6) ∧ (∀ k : Nat, k < 20 → 0 ≤ (σ 71 k).toInt ∧ (σ 71 k).toInt ≤ 8) ∧ (∀ k : Nat, k < 160 → 0 ≤ (σ 72 k).toInt ∧ (σ 72 k).toInt ≤ 3) := id hI106
  obtain ⟨i44, i45, w46⟩ : (0 ≤ (σ 55 47).toInt ∧ (σ 55 47).toInt ≤ 12) ∧ ((σ 55 47).toInt ≤ (σ 55 12).toInt) ∧ (∀ k : Nat, k < 12 → 0 ≤ (σ 80 k).toInt ∧ (σ 80 k).toInt ≤ 3) := id hI107
  have hs_jOk3 : jOk3 σ := hr0.ok hr1.1
  refine lv_aload_n hx hb dL_law_628 rfl (lv_at hl 2 rfl) ?_
  refine lv_aload_n hx hb dL_law_629 rfl (lv_at hl 3 rfl) ?_
  refine lv_iload_n hx hb dL_law_630 rfl (lv_at hl 0 rfl) ?_
  refine lv_iconst (v := 1) hx hb dL_law_631 (by decide) ?_
  have g47 := jrg (rfl : x0.toInt = x0.toInt)
  refine lv_iadd hx hb dL_law_632 ?_
  refine lv_topi (fun x48 ex48 => ?_)
  have tx48 : x48.toInt = x0.toInt + 1 := (jadd ex48 rfl jz_1 (by omega) (by omega)).trans (by omega)
  refine va_sld hx hb hX hbl hbA hS (jin tx48 (by omega) (by omega)) dL_law_633 ?_
  have g49 := jrg (rfl : (xs x48.toNatClampNeg).toInt = (xs x48.toNatClampNeg).toInt)
  refine lv_aload_n hx hb dL_law_634 rfl (lv_at hl 3 rfl) ?_
  refine lv_iload_n hx hb dL_law_635 rfl (lv_at hl 0 rfl) ?_
  refine lv_iconst (v := 2) hx hb dL_law_636 (by decide) ?_
  refine lv_iadd hx hb dL_law_637 ?_
  refine lv_topi (fun x50 ex50 => ?_)
  have tx50 : x50.toInt = x0.toInt + 2 := (jadd ex50 rfl jz_2 (by omega) (by omega)).trans (by omega)
  refine va_sld hx hb hX hbl hbA hS (jin tx50 (by omega) (by omega)) dL_law_638 ?_
  have g51 := jrg (rfl : (xs x50.toNatClampNeg).toInt = (xs x50.toNatClampNeg).toInt)
  refine jcallV (As := [.int (xs x48.toNatClampNeg), .int (xs x50.toNatClampNeg)]) (rest := []) ⟨hx, hb, hml, hown, hts⟩ hK hP hA hS hZ (c_X11_worth l D cI cL ad zz hJ σ τ (xs x48.toNatClampNeg) ((xs x48.toNatClampNeg).toInt) rfl (xs x50.toNatClampNeg) ((xs x50.toNatClampNeg).toInt) rfl hI2 hI16 hI22 hI31 hI26 hs_jN67 hs_jBl hs_jKb hs_jKh hs_jKg) cw_RL_73 (jc_0 cI cL ad σ τ) rfl ⟨Nat.le_of_ble_eq_true rfl, Nat.le_of_ble_eq_true rfl⟩ rfl rfl rfl hl.1 rfl (Nat.le_of_ble_eq_true rfl) dL_law_639 ⟨Nat.le_of_ble_eq_true rfl, Nat.le_of_ble_eq_true rfl⟩ (fun r53 σ52 τ52 H locs h52 hP hS => ?_)
  obtain ⟨rfl, f54, f55, I56, p57, p58, p59, p60, p61, h52⟩ := h52
  refine lv_pop hx hb dL_law_642 rfl ?_
  refine lv_aload_n hx hb dL_law_643 rfl (lv_at hl 1 rfl) ?_
  refine lv_aload_n hx hb dL_law_644 rfl (lv_at hl 3 rfl) ?_
  refine lv_iload_n hx hb dL_law_645 rfl (lv_at hl 0 rfl) ?_
  refine lv_iconst (v := 1) hx hb dL_law_646 (by decide) ?_
  refine lv_iadd hx hb dL_law_647 ?_
  refine jtopr ex48.symm ?_
  refine va_sld hx hb hX hbl hbA hS (jin tx48 (by omega) (by omega)) dL_law_648 ?_
  refine lv_aload_n hx hb dL_law_649 rfl (lv_at hl 3 rfl) ?_
  refine lv_iload_n hx hb dL_law_650 rfl (lv_at hl 0 rfl) ?_
  refine lv_iconst (v := 2) hx hb dL_law_651 (by decide) ?_
  refine lv_iadd hx hb dL_law_652 ?_
  refine jtopr ex50.symm ?_
  refine va_sld hx hb hX hbl hbA hS (jin tx50 (by omega) (by omega)) dL_law_653 ?_
  have I63 : jI101 σ52 := jI101_fr (congrFun (f54 55 (by decide)) 4) (congrFun (f54 55 (by decide)) 5) (f54 56 (by decide)) (f54 57 (by decide)) (f54 58 (by decide)) (f54 59 (by decide)) hI101
  have I64 : jI102 σ52 := jI102_fr (congrFun (f54 55 (by decide)) 6) (f54 60 (by decide)) (f54 61 (by decide)) hI102
  have I65 : jI103 σ52 := jI103_fr (congrFun (f54 55 (by decide)) 9) hI103
  have I66 : jI104 σ52 := jI104_fr (congrFun (f54 55 (by decide)) 10) (congrFun (f54 55 (by decide)) 12) (congrFun (f54 55 (by decide)) 13) (f54 62 (by decide)) (f54 67 (by decide)) hI104
  have I67 : jI105 σ52 := jI105_fr (congrFun (f54 55 (by decide)) 15) (f54 65 (by decide)) hI105
  have I68 : jI106 σ52 := jI106_fr (congrFun (f54 55 (by decide)) 32) (f54 70 (by decide)) (f54 71 (by decide)) (f54 72 (by decide)) hI106
  have I69 : jI119 σ52 := jI119_fr (f54 68 (by decide)) hI119
  have p70 : jKept σ52 := jKept.fr (f54 75 (by decide)) (f54 76 (by decide)) (f54 77 (by decide)) hs_jKept
  have p71 : jTR σ52 := jTR.fr (f54 64 (by decide)) (f54 65 (by decide)) hs_jTR
  have z72 : (σ52 55 30).toInt = (σ 55 30).toInt := (congrArg Int32.toInt (show σ52 55 30 = (σ 55 30) from (congrFun (f54 55 (by decide)) 30)))
  have z73 : (σ52 55 31).toInt = (σ 55 31).toInt := (congrArg Int32.toInt (show σ52 55 31 = (σ 55 31) from (congrFun (f54 55 (by decide)) 31)))
  refine jcallV (As := [.int (xs x48.toNatClampNeg), .int (xs x50.toNatClampNeg)]) (rest := []) ⟨hx, hb, hml, hown, hts⟩ hK hP hA hS hZ (c_X12_worth l D cI cL ad zz hJ σ52 τ (xs x48.toNatClampNeg) ((xs x48.toNatClampNeg).toInt) rfl (xs x50.toNatClampNeg) ((xs x50.toNatClampNeg).toInt) rfl I63 I64 I65 I66 I67 I68 I69 p70 p71) cw_RL_76 (jc_55 cI cL ad σ52 τ) rfl ⟨Nat.le_of_ble_eq_true rfl, Nat.le_of_ble_eq_true rfl⟩ rfl rfl rfl hl.1 rfl (Nat.le_of_ble_eq_true rfl) dL_law_654 ⟨Nat.le_of_ble_eq_true rfl, Nat.le_of_ble_eq_true rfl⟩ (fun r75 σ74 τ74 H locs h74 hP hS => ?_)
  obtain ⟨rfl, f76, f77, I78, p79, p80, h74⟩ := h74
  obtain ⟨k82, h74⟩ := h74
  refine lv_pop hx hb dL_law_657 rfl ?_
  refine lv_goto (tgt := 1357) hx hb dL_law_658 (by decide) ?_
  obtain ⟨x83, ex83⟩ : ∃ y : Int32, y = x0 + 6 := ⟨_, rfl⟩
  have tx83 : x83.toInt = x0.toInt + 6 := (jadd ex83 rfl jz_6 (by omega) (by omega)).trans (by omega)
  refine lv_iinc (v := x83) (lv' := [(3, .int x83), (2, .ref (ad 55)), (1, .ref (ad 0)), (0, .ref b)]) hx hb dL_law_1357 hl (k := 0) rfl (by rw [ex83]; rfl) (by decide) rfl (fun ls hl => ?_)
  refine lv_goto (tgt := 18) hx hb dL_law_1360 (by decide) ?_
  have I84 : jI2 σ74 := jI2_fr ((congrFun (f76 2 (by decide)) 0).trans (congrFun (f54 2 (by decide)) 0)) ((congrFun (f76 2 (by decide)) 1).trans (congrFun (f54 2 (by decide)) 1)) ((congrFun (f76 2 (by decide)) 2).trans (congrFun (f54 2 (by decide)) 2)) ((congrFun (f76 2 (by decide)) 3).trans (congrFun (f54 2 (by decide)) 3)) ((f76 6 (by decide)).trans (f54 6 (by decide))) hI2
  have I85 : jI9 σ74 := jI9_fr ((congrFun (f76 9 (by decide)) 0).trans (congrFun (f54 9 (by decide)) 0)) ((f76 10 (by decide)).trans (f54 10 (by decide))) ((f76 11 (by decide)).trans (f54 11 (by decide))) hI9
  have I86 : jI12 σ74 := jI12_fr ((congrFun (f76 12 (by decide)) 0).trans (congrFun (f54 12 (by decide)) 0)) ((f76 13 (by decide)).trans (f54 13 (by decide))) hI12
  have I87 : jI16 σ74 := jI16_fr ((congrFun (f76 16 (by decide)) 0).trans (congrFun (f54 16 (by decide)) 0)) ((congrFun (f76 16 (by decide)) 1).trans (congrFun (f54 16 (by decide)) 1)) ((congrFun (f76 16 (by decide)) 2).trans (congrFun (f54 16 (by decide)) 2)) ((f76 17 (by decide)).trans (f54 17 (by decide))) hI16
  have I88 : jI18 σ74 := jI18_fr ((congrFun (f76 18 (by decide)) 0).trans (congrFun (f54 18 (by decide)) 0)) ((f76 19 (by decide)).trans (f54 19 (by decide))) hI18
  have I89 : jI22 σ74 := jI22_fr ((congrFun (f76 22 (by decide)) 0).trans (congrFun (f54 22 (by decide)) 0)) ((f76 23 (by decide)).trans (f54 23 (by decide))) hI22
  have I90 : jI31 σ74 := jI31_fr (congrFun (f76 31 (by decide)) 8) (congrFun (f76 31 (by decide)) 10) (congrFun (f76 31 (by decide)) 11) (f76 33 (by decide)) (f76 35 (by decide)) (f76 36 (by decide)) I56
  have I91 : jI38 σ74 := jI38_fr ((congrFun (f76 38 (by decide)) 0).trans (congrFun (f54 38 (by decide)) 0)) ((congrFun (f76 38 (by decide)) 1).trans (congrFun (f54 38 (by decide)) 1)) ((f76 39 (by decide)).trans (f54 39 (by decide))) hI38
  have I92 : jI43 σ74 := jI43_fr ((congrFun (f76 43 (by decide)) 8).trans (congrFun (f54 43 (by decide)) 8)) hI43
  have I93 : jI47 σ74 := jI47_fr ((congrFun (f76 47 (by decide)) 0).trans (congrFun (f54 47 (by decide)) 0)) ((f76 48 (by decide)).trans (f54 48 (by decide))) ((f76 49 (by decide)).trans (f54 49 (by decide))) hI47
  have I94 : jI50 σ74 := jI50_fr ((f76 52 (by decide)).trans (f54 52 (by decide))) hI50
  have I95 : jI0 σ74 := jI0_fr ((f76 1 (by decide)).trans (f54 1 (by decide))) hI0
  have I96 : jI26 σ74 := jI26_fr ((congrFun (f76 26 (by decide)) 6).trans (congrFun (f54 26 (by decide)) 6)) hI26
  have I97 : jI101 σ74 := jI101_fr (f77 4 (by decide)) (f77 5 (by decide)) (f76 56 (by decide)) (f76 57 (by decide)) (f76 58 (by decide)) (f76 59 (by decide)) I63
  have I98 : jI102 σ74 := jI102_fr (f77 6 (by decide)) (f76 60 (by decide)) (f76 61 (by decide)) I64
  have I99 : jI103 σ74 := jI103_fr (f77 9 (by decide)) I65
  have I100 : jI104 σ74 := jI104_fr (f77 10 (by decide)) (f77 12 (by decide)) (f77 13 (by decide)) (f76 62 (by decide)) (f76 67 (by decide)) I66
  have I101 : jI105 σ74 := jI105_fr (f77 15 (by decide)) (f76 65 (by decide)) I67
  have I102 : jI106 σ74 := jI106_fr (f77 32 (by decide)) (f76 70 (by decide)) (f76 71 (by decide)) (f76 72 (by decide)) I68
  have I103 : jI107 σ74 := jI107_fr ((f77 12 (by decide)).trans (congrFun (f54 55 (by decide)) 12)) ((f77 47 (by decide)).trans (congrFun (f54 55 (by decide)) 47)) ((f76 80 (by decide)).trans (f54 80 (by decide))) hI107
  have I104 : jI109 σ74 := jI109_fr ((f77 50 (by decide)).trans (congrFun (f54 55 (by decide)) 50)) hI109
  have I105 : jI110 σ74 := jI110_fr ((f76 86 (by decide)).trans (f54 86 (by decide))) ((f76 87 (by decide)).trans (f54 87 (by decide))) hI110
  have I106 : jI111 σ74 := jI111_fr ((f76 79 (by decide)).trans (f54 79 (by decide))) hI111
  have p107 : jBook σ74 := jBook.fr ((f77 47 (by decide)).trans (congrFun (f54 55 (by decide)) 47)) ((f77 10 (by decide)).trans (congrFun (f54 55 (by decide)) 10)) ((f76 81 (by decide)).trans (f54 81 (by decide))) hs_jBook
  have p108 : jNd12 σ74 := jNd12.fr ((congrFun (f76 12 (by decide)) 0).trans (congrFun (f54 12 (by decide)) 0)) ((congrFun (f76 12 (by decide)) 1).trans (congrFun (f54 12 (by decide)) 1)) ((f76 13 (by decide)).trans (f54 13 (by decide))) hs_jNd12
  have p109 : jN67 σ74 := jN67.fr (f76 24 (by decide)) p57
  have p110 : jBl σ74 := jBl.fr (congrFun (f76 22 (by decide)) 0) (congrFun (f76 22 (by decide)) 1) (f76 23 (by decide)) (congrFun (f76 26 (by decide)) 6) (congrFun (f76 26 (by decide)) 7) (f76 29 (by decide)) (f76 30 (by decide)) p58
  have p111 : jKb σ74 := jKb.fr (congrFun (f76 31 (by decide)) 8) (congrFun (f76 31 (by decide)) 11) (f76 32 (by decide)) p59
  have p112 : jKh σ74 := jKh.fr (congrFun (f76 31 (by decide)) 8) (f76 32 (by decide)) (f76 36 (by decide)) (f76 37 (by decide)) p60
  have p113 : jKg σ74 := jKg.fr (congrFun (f76 31 (by decide)) 8) (congrFun (f76 31 (by decide)) 9) (congrFun (f76 31 (by decide)) 11) (congrFun (f76 31 (by decide)) 12) (f76 32 (by decide)) (f76 33 (by decide)) p61
  have z114 : (σ74 2 0).toInt = (σ 2 0).toInt := (congrArg Int32.toInt (show σ74 2 0 = (σ 2 0) from ((congrFun (f76 2 (by decide)) 0).trans (congrFun (f54 2 (by decide)) 0))))
  have z115 : (σ74 55 6).toInt = (σ 55 6).toInt := (congrArg Int32.toInt (show σ74 55 6 = (σ 55 6) from ((f77 6 (by decide)).trans (congrFun (f54 55 (by decide)) 6))))
  have z116 : (σ74 2 2).toInt = (σ 2 2).toInt := (congrArg Int32.toInt (show σ74 2 2 = (σ 2 2) from ((congrFun (f76 2 (by decide)) 2).trans (congrFun (f54 2 (by decide)) 2))))
  have z117 : (σ74 55 5).toInt = (σ 55 5).toInt := (congrArg Int32.toInt (show σ74 55 5 = (σ 55 5) from ((f77 5 (by decide)).trans (congrFun (f54 55 (by decide)) 5))))
  have z118 : (σ74 2 3).toInt = (σ 2 3).toInt := (congrArg Int32.toInt (show σ74 2 3 = (σ 2 3) from ((congrFun (f76 2 (by decide)) 3).trans (congrFun (f54 2 (by decide)) 3))))
  have z119 : (σ74 55 4).toInt = (σ 55 4).toInt := (congrArg Int32.toInt (show σ74 55 4 = (σ 55 4) from ((f77 4 (by decide)).trans (congrFun (f54 55 (by decide)) 4))))
  have z120 : (σ74 9 0).toInt = (σ 9 0).toInt := (congrArg Int32.toInt (show σ74 9 0 = (σ 9 0) from ((congrFun (f76 9 (by decide)) 0).trans (congrFun (f54 9 (by decide)) 0))))
  have z121 : (σ74 55 15).toInt = (σ 55 15).toInt := (congrArg Int32.toInt (show σ74 55 15 = (σ 55 15) from ((f77 15 (by decide)).trans (congrFun (f54 55 (by decide)) 15))))
  have z122 : (σ74 16 0).toInt = (σ 16 0).toInt := (congrArg Int32.toInt (show σ74 16 0 = (σ 16 0) from ((congrFun (f76 16 (by decide)) 0).trans (congrFun (f54 16 (by decide)) 0))))
  have z123 : (σ74 55 10).toInt = (σ 55 10).toInt := (congrArg Int32.toInt (show σ74 55 10 = (σ 55 10) from ((f77 10 (by decide)).trans (congrFun (f54 55 (by decide)) 10))))
  have z124 : (σ74 16 1).toInt = (σ 16 1).toInt := (congrArg Int32.toInt (show σ74 16 1 = (σ 16 1) from ((congrFun (f76 16 (by decide)) 1).trans (congrFun (f54 16 (by decide)) 1))))
  have z125 : (σ74 55 12).toInt = (σ 55 12).toInt := (congrArg Int32.toInt (show σ74 55 12 = (σ 55 12) from ((f77 12 (by decide)).trans (congrFun (f54 55 (by decide)) 12))))
  have z126 : (σ74 16 2).toInt = (σ 16 2).toInt := (congrArg Int32.toInt (show σ74 16 2 = (σ 16 2) from ((congrFun (f76 16 (by decide)) 2).trans (congrFun (f54 16 (by decide)) 2))))
  have z127 : (σ74 55 13).toInt = (σ 55 13).toInt := (congrArg Int32.toInt (show σ74 55 13 = (σ 55 13) from ((f77 13 (by decide)).trans (congrFun (f54 55 (by decide)) 13))))
  have z128 : (σ74 38 0).toInt = (σ 38 0).toInt := (congrArg Int32.toInt (show σ74 38 0 = (σ 38 0) from ((congrFun (f76 38 (by decide)) 0).trans (congrFun (f54 38 (by decide)) 0))))
  have z129 : (σ74 55 32).toInt = (σ 55 32).toInt := (congrArg Int32.toInt (show σ74 55 32 = (σ 55 32) from ((f77 32 (by decide)).trans (congrFun (f54 55 (by decide)) 32))))
  have z130 : (σ74 38 1).toInt = (σ 38 1).toInt := (congrArg Int32.toInt (show σ74 38 1 = (σ 38 1) from ((congrFun (f76 38 (by decide)) 1).trans (congrFun (f54 38 (by decide)) 1))))
  have z131 : (σ74 55 55).toInt = (σ 55 55).toInt := (congrArg Int32.toInt (show σ74 55 55 = (σ 55 55) from ((f77 55 (by decide)).trans (congrFun (f54 55 (by decide)) 55))))
  have z132 : (σ74 47 0).toInt = (σ 47 0).toInt := (congrArg Int32.toInt (show σ74 47 0 = (σ 47 0) from ((congrFun (f76 47 (by decide)) 0).trans (congrFun (f54 47 (by decide)) 0))))
  have z133 : (σ74 55 47).toInt = (σ 55 47).toInt := (congrArg Int32.toInt (show σ74 55 47 = (σ 55 47) from ((f77 47 (by decide)).trans (congrFun (f54 55 (by decide)) 47))))
  have z134 : (σ74 2 1).toInt = (σ 2 1).toInt := (congrArg Int32.toInt (show σ74 2 1 = (σ 2 1) from ((congrFun (f76 2 (by decide)) 1).trans (congrFun (f54 2 (by decide)) 1))))
  have z135 : (σ74 55 9).toInt = (σ 55 9).toInt := (congrArg Int32.toInt (show σ74 55 9 = (σ 55 9) from ((f77 9 (by decide)).trans (congrFun (f54 55 (by decide)) 9))))
  have z136 : (σ74 26 6).toInt = (σ 26 6).toInt := (congrArg Int32.toInt (show σ74 26 6 = (σ 26 6) from ((congrFun (f76 26 (by decide)) 6).trans (congrFun (f54 26 (by decide)) 6))))
  have z138 : (σ74 18 0).toInt = (σ 18 0).toInt := (congrArg Int32.toInt (show σ74 18 0 = (σ 18 0) from ((congrFun (f76 18 (by decide)) 0).trans (congrFun (f54 18 (by decide)) 0))))
  have z139 : (σ74 22 0).toInt = (σ 22 0).toInt := (congrArg Int32.toInt (show σ74 22 0 = (σ 22 0) from ((congrFun (f76 22 (by decide)) 0).trans (congrFun (f54 22 (by decide)) 0))))
  exact ih x83 σ74 τ _ _ ls (by have h9 := tx83; omega) ⟨I84, I85, I86, I87, I88, I89, I90, I91, I92, I93, I94, I95, I96, I97, I98, I99, I100, I101, I102, I103, I104, I105, I106, I78, p79, p107, p108, p109, p110, p111, p80, p112, p113, (by omega), (by omega), (by omega), (by omega), (by omega), (by omega), (by omega), (by omega), (by omega), (by omega), (by omega), (by omega), (by omega), (by have h9 := tx83; omega), (show jNumP (σ74 3) (σ74 56) (σ74 6) (σ74 57) (σ74 7) (σ74 58) (σ74 8) (σ74 59) (σ74 55 6).toInt (σ74 55 4).toInt by rw [show σ74 3 = σ 3 from ((f76 3 (by decide)).trans (f54 3 (by decide))), show σ74 56 = σ 56 from ((f76 56 (by decide)).trans (f54 56 (by decide))), show σ74 6 = σ 6 from ((f76 6 (by decide)).trans (f54 6 (by decide))), show σ74 57 = σ 57 from ((f76 57 (by decide)).trans (f54 57 (by decide))), show σ74 7 = σ 7 from ((f76 7 (by decide)).trans (f54 7 (by decide))), show σ74 58 = σ 58 from ((f76 58 (by decide)).trans (f54 58 (by decide))), show σ74 8 = σ 8 from ((f76 8 (by decide)).trans (f54 8 (by decide))), show σ74 59 = σ 59 from ((f76 59 (by decide)).trans (f54 59 (by decide))), show (σ74 55 6).toInt = (σ 55 6).toInt from by omega, show (σ74 55 4).toInt = (σ 55 4).toInt from by omega]; exact hr0), (show jOvP (σ74 56) (σ74 57) (σ74 58) (σ74 59) (σ74 55 4).toInt by rw [show σ74 56 = σ 56 from ((f76 56 (by decide)).trans (f54 56 (by decide))), show σ74 57 = σ 57 from ((f76 57 (by decide)).trans (f54 57 (by decide))), show σ74 58 = σ 58 from ((f76 58 (by decide)).trans (f54 58 (by decide))), show σ74 59 = σ 59 from ((f76 59 (by decide)).trans (f54 59 (by decide))), show (σ74 55 4).toInt = (σ 55 4).toInt from by omega]; exact hr1), (show jTp (σ74 10) (σ74 63) (σ74 55 15).toInt by rw [show σ74 10 = σ 10 from ((f76 10 (by decide)).trans (f54 10 (by decide))), show σ74 63 = σ 63 from ((f76 63 (by decide)).trans (f54 63 (by decide)))]; exact hr2.le (by omega)), (show jSo (σ74 17) (σ74 62) (σ74 16 0).toInt by rw [show σ74 17 = σ 17 from ((f76 17 (by decide)).trans (f54 17 (by decide))), show σ74 62 = σ 62 from ((f76 62 (by decide)).trans (f54 62 (by decide))), show (σ74 16 0).toInt = (σ 16 0).toInt from by omega]; exact hr3), (show jShP (σ74 51) (σ74 52) (σ74 53) (σ74 86) (σ74 87) (σ74 55 32).toInt by rw [show σ74 51 = σ 51 from ((f76 51 (by decide)).trans (f54 51 (by decide))), show σ74 52 = σ 52 from ((f76 52 (by decide)).trans (f54 52 (by decide))), show σ74 53 = σ 53 from ((f76 53 (by decide)).trans (f54 53 (by decide))), show σ74 86 = σ 86 from ((f76 86 (by decide)).trans (f54 86 (by decide))), show σ74 87 = σ 87 from ((f76 87 (by decide)).trans (f54 87 (by decide)))]; exact (hr4.up (by omega) (by omega))), (show jEl (σ74 51) (σ74 52) (τ 54) (τ 88) by rw [show σ74 51 = σ 51 from ((f76 51 (by decide)).trans (f54 51 (by decide))), show σ74 52 = σ 52 from ((f76 52 (by decide)).trans (f54 52 (by decide)))]; exact hr5), (show jByP (σ74 51) (σ74 52) (τ 54) by rw [show σ74 51 = σ 51 from ((f76 51 (by decide)).trans (f54 51 (by decide))), show σ74 52 = σ 52 from ((f76 52 (by decide)).trans (f54 52 (by decide)))]; exact hr6), (show jBk (σ74 48) (σ74 80) (σ74 49) (σ74 81) (σ74 55 47).toInt by rw [show σ74 48 = σ 48 from ((f76 48 (by decide)).trans (f54 48 (by decide))), show σ74 49 = σ 49 from ((f76 49 (by decide)).trans (f54 49 (by decide))), show σ74 80 = σ 80 from ((f76 80 (by decide)).trans (f54 80 (by decide))), show σ74 81 = σ 81 from ((f76 81 (by decide)).trans (f54 81 (by decide))), show (σ74 55 47).toInt = (σ 55 47).toInt from by omega]; exact hr7), (show jKd (σ74 39) (σ74 70) (σ74 55 32).toInt by rw [show σ74 39 = σ 39 from ((f76 39 (by decide)).trans (f54 39 (by decide))), show σ74 70 = σ 70 from ((f76 70 (by decide)).trans (f54 70 (by decide))), show (σ74 55 32).toInt = (σ 55 32).toInt from by omega]; exact hr8), (show jTt (σ74 42) (σ74 85) (σ74 55 55).toInt by rw [show σ74 42 = σ 42 from ((f76 42 (by decide)).trans (f54 42 (by decide))), show σ74 85 = σ 85 from ((f76 85 (by decide)).trans (f54 85 (by decide))), show (σ74 55 55).toInt = (σ 55 55).toInt from by omega]; exact hr9), (fun k hk => by rw [show σ74 4 = σ 4 from ((f76 4 (by decide)).trans (f54 4 (by decide))), show σ74 5 = σ 5 from ((f76 5 (by decide)).trans (f54 5 (by decide))), show σ74 60 = σ 60 from ((f76 60 (by decide)).trans (f54 60 (by decide))), show σ74 61 = σ 61 from ((f76 61 (by decide)).trans (f54 61 (by decide)))]; exact hr10 k (by omega)), (fun nm => by rw [show σ74 19 = σ 19 from ((f76 19 (by decide)).trans (f54 19 (by decide))), show σ74 64 = σ 64 from ((f76 64 (by decide)).trans (f54 64 (by decide))), show σ74 65 = σ 65 from ((f76 65 (by decide)).trans (f54 65 (by decide))), show (σ74 18 0).toInt = (σ 18 0).toInt from by omega]; exact hr11 nm), (fun nm => by rw [show σ74 23 = σ 23 from ((f76 23 (by decide)).trans (f54 23 (by decide))), show σ74 64 = σ 64 from ((f76 64 (by decide)).trans (f54 64 (by decide))), show σ74 65 = σ 65 from ((f76 65 (by decide)).trans (f54 65 (by decide))), show (σ74 22 0).toInt = (σ 22 0).toInt from by omega]; exact hr12 nm)⟩ hP hS (lv_sub hl [0, 1, 2, 3] rfl)
set_option maxHeartbeats 4000000 in
set_option maxRecDepth 100000 in
theorem law_case_15 {p : Program} {e : Env} {s : State} {m : MethodId} {below : List Frame} {meth : Method} {c : Code} (l : Launch) {b L : Nat} {xs : Nat → Int32} {D : va_G} {cI cL : ClassId} {ad zz : Nat → Nat} (C0 : lw_At p s m meth c b L xs) (hJ : jD ad) (hA : ∀ q, jA ad q → s.heap.size ≤ q) (hK : jK D cI cL s) (hZ : jZ zz (fun q : Nat => s.heap.size ≤ q) s s.heap) {x0 : Int32} (hx0 : 0 ≤ x0.toInt) (hxL : x0.toInt + 6 ≤ (L : Int)) (hL : L ≤ 384) {σ : Nat → Nat → Int32} {τ : Nat → Nat → Int64} {H : Heap} {locs : List Loc} (hS : va_S (fun q : Nat => s.heap.size ≤ q) s.heap H locs) {ls : Array Slot} (hAll : jAll x0.toInt σ τ) (hP : jH D cI cL ad σ τ H) (hl : lv_has ls 4 [(3, .int x0), (2, .ref (ad 55)), (1, .ref (ad 0)), (0, .ref b)]) (ih : ∀ (x1 : Int32) (σ : Nat → Nat → Int32) (τ : Nat → Nat → Int64) (H : Heap) (locs : List Loc) (ls : Array Slot), x1.toInt = x0.toInt + 6 → jAll x1.toInt σ τ → jH D cI cL ad σ τ H → va_S (fun q : Nat => s.heap.size ≤ q) s.heap H locs → lv_has ls 4 [(3, .int x1), (2, .ref (ad 55)), (1, .ref (ad 0)), (0, .ref b)] → W p l e room_1 s m #[Value.ref b] below meth c H locs 90 348600 (lw_Z below #[Value.ref b] s) (F0 m 18 ls [])) : W p l e room_1 s m #[Value.ref b] below meth c H locs 90 348600 (lw_Z below #[Value.ref b] s) (F0 m 661 ls []) := by
  obtain ⟨hx, hb, hr, hml, hown, hts0, hX, hbl, hlocks, hgv⟩ := C0
  have hts : ∀ w ∈ wsL_law, w.before #[Value.ref b] s = true := fun w h => hts0 w (wsL_law_in w h)
  have hbA : ¬ (fun q : Nat => s.heap.size ≤ q) b := Nat.not_le.mpr hbl
  have hown : s.vm.findClass RL = some m.cls := hown
  obtain ⟨hI2, hI9, hI12, hI16, hI18, hI22, hI31, hI38, hI43, hI47, hI50, hI0, hI26, hI101, hI102, hI103, hI104, hI105, hI106, hI107, hI109, hI110, hI111, hI119, hs_jKept, hs_jBook, hs_jNd12, hs_jN67, hs_jBl, hs_jKb, hs_jTR, hs_jKh, hs_jKg, ht0, ht1, ht2, ht3, ht4, ht5, ht6, ht7, ht8, ht9, ht10, ht11, ht12, ht13, hr0, hr1, hr2, hr3, hr4, hr5, hr6, hr7, hr8, hr9, hr10, hr11, hr12⟩ := hAll
  have hL9 : (L : Int) ≤ 384 := by omega
  obtain ⟨i1, i2, i3, i4, i5, w6⟩ : (0 ≤ (σ 2 0).toInt ∧ (σ 2 0).toInt ≤ 4) ∧ (0 ≤ (σ 2 1).toInt ∧ (σ 2 1).toInt ≤ 3) ∧ (0 ≤ (σ 2 2).toInt) ∧ (0 ≤ (σ 2 3).toInt) ∧ ((σ 2 2).toInt + (σ 2 3).toInt ≤ 40) ∧ (∀ k : Nat, k < 40 → 0 ≤ (σ 6 k).toInt ∧ (σ 6 k).toInt ≤ 67) := id hI2
  obtain ⟨i7, w8, w9⟩ : (0 ≤ (σ 9 0).toInt ∧ (σ 9 0).toInt ≤ 80) ∧ (∀ k : Nat, k < 80 → 0 ≤ (σ 10 k).toInt ∧ (σ 10 k).toInt ≤ 255) ∧ (∀ k : Nat, k < 8 → 0 ≤ (σ 11 k).toInt ∧ (σ 11 k).toInt ≤ 3) := id hI9
  obtain ⟨i10, i11, i12, w13⟩ : (1 ≤ (σ 16 0).toInt ∧ (σ 16 0).toInt ≤ 8) ∧ (1 ≤ (σ 16 1).toInt ∧ (σ 16 1).toInt ≤ 12) ∧ (0 ≤ (σ 16 2).toInt ∧ (σ 16 2).toInt ≤ 999) ∧ (∀ k : Nat, k < 8 → 0 ≤ (σ 17 k).toInt ∧ (σ 17 k).toInt ≤ 3) := id hI16
  obtain ⟨i14, i15, w16⟩ : (0 ≤ (σ 38 0).toInt ∧ (σ 38 0).toInt ≤ 20) ∧ (0 ≤ (σ 38 1).toInt ∧ (σ 38 1).toInt ≤ 1000) ∧ (∀ k : Nat, k < 20 → 0 ≤ (σ 39 k).toInt ∧ (σ 39 k).toInt ≤ 6) := id hI38
  obtain ⟨i17, w18, w19⟩ : (0 ≤ (σ 47 0).toInt ∧ (σ 47 0).toInt ≤ 12) ∧ (∀ k : Nat, k < 12 → 0 ≤ (σ 48 k).toInt ∧ (σ 48 k).toInt ≤ 3) ∧ (∀ k : Nat, k < 12 → 0 ≤ (σ 49 k).toInt ∧ (σ 49 k).toInt ≤ 1) := id hI47
  have w20 : ∀ k : Nat, k < 6 → 0 ≤ (σ 52 k).toInt ∧ (σ 52 k).toInt ≤ 60 := hI50
  have i21 : 1 ≤ (σ 26 6).toInt ∧ (σ 26 6).toInt ≤ 8000 := hI26
  obtain ⟨i22, i23, i24, w25, w26, w27, w28⟩ : (0 ≤ (σ 55 5).toInt) ∧ ((σ 55 5).toInt ≤ (σ 55 4).toInt) ∧ ((σ 55 4).toInt ≤ 40) ∧ (∀ k : Nat, k < 68 → (-200) ≤ (σ 56 k).toInt ∧ (σ 56 k).toInt ≤ 500) ∧ (∀ k : Nat, k < 40 → 0 ≤ (σ 57 k).toInt ∧ (σ 57 k).toInt ≤ 67) ∧ (∀ k : Nat, k < 40 → (-200) ≤ (σ 58 k).toInt ∧ (σ 58 k).toInt ≤ 500) ∧ (∀ k : Nat, k < 40 → (-200) ≤ (σ 59 k).toInt ∧ (σ 59 k).toInt ≤ 500) := id hI101
  obtain ⟨i29, w30, w31⟩ : (0 ≤ (σ 55 6).toInt ∧ (σ 55 6).toInt ≤ 4) ∧ (∀ k : Nat, k < 4 → 0 ≤ (σ 60 k).toInt ∧ (σ 60 k).toInt ≤ 50) ∧ (∀ k : Nat, k < 4 → 0 ≤ (σ 61 k).toInt ∧ (σ 61 k).toInt ≤ 20) := id hI102
  have i32 : 0 ≤ (σ 55 9).toInt ∧ (σ 55 9).toInt ≤ 3 := hI103
  obtain ⟨i33, i34, i35, w36, w37⟩ : (1 ≤ (σ 55 10).toInt ∧ (σ 55 10).toInt ≤ 8) ∧ (1 ≤ (σ 55 12).toInt ∧ (σ 55 12).toInt ≤ 12) ∧ (0 ≤ (σ 55 13).toInt ∧ (σ 55 13).toInt ≤ 999) ∧ (∀ k : Nat, k < 8 → 0 ≤ (σ 62 k).toInt ∧ (σ 62 k).toInt ≤ 3) ∧ (∀ k : Nat, k < 8 → 0 ≤ (σ 67 k).toInt ∧ (σ 67 k).toInt ≤ 3) := id hI104
  obtain ⟨i38, w39⟩ : (0 ≤ (σ 55 15).toInt ∧ (σ 55 15).toInt ≤ 80) ∧ (∀ k : Nat, k < 2 → (-1) ≤ (σ 65 k).toInt ∧ (σ 65 k).toInt ≤ 80) := id hI105
  obtain ⟨i40, w41, w42, w43⟩ : (0 ≤ (σ 55 32).toInt ∧ (σ 55 32).toInt ≤ 20) ∧ (∀ k : Nat, k < 20 → 0 ≤ (σ 70 k).toInt ∧ (σ 70 k).toInt ≤ 6) ∧ (∀ k : Nat, k < 20 → 0 ≤ (σ 71 k).toInt ∧ (σ 71 k).toInt ≤ 8) ∧ (∀ k : Nat, k < 160 → 0 ≤ (σ 72 k).toInt ∧ (σ 72 k).toInt ≤ 3) := id hI106
  obtain ⟨i44, i45, w46⟩ : (0 ≤ (σ 55 47).toInt ∧ (σ 55 47).toInt ≤ 12) ∧ ((σ 55 47).toInt ≤ (σ 55 12).toInt) ∧ (∀ k : Nat, k < 12 → 0 ≤ (σ 80 k).toInt ∧ (σ 80 k).toInt ≤ 3) := id hI107
  have hs_jOk3 : jOk3 σ := hr0.ok hr1.1
  refine lv_aload_n hx hb dL_law_661 rfl (lv_at hl 2 rfl) ?_
  refine lv_aload_n hx hb dL_law_662 rfl (lv_at hl 3 rfl) ?_
  refine lv_iload_n hx hb dL_law_663 rfl (lv_at hl 0 rfl) ?_
  refine lv_iconst (v := 1) hx hb dL_law_664 (by decide) ?_
  have g47 := jrg (rfl : x0.toInt = x0.toInt)
  refine lv_iadd hx hb dL_law_665 ?_
  refine lv_topi (fun x48 ex48 => ?_)
  have tx48 : x48.toInt = x0.toInt + 1 := (jadd ex48 rfl jz_1 (by omega) (by omega)).trans (by omega)
  refine va_sld hx hb hX hbl hbA hS (jin tx48 (by omega) (by omega)) dL_law_666 ?_
  have g49 := jrg (rfl : (xs x48.toNatClampNeg).toInt = (xs x48.toNatClampNeg).toInt)
  refine lv_aload_n hx hb dL_law_667 rfl (lv_at hl 3 rfl) ?_
  refine lv_iload_n hx hb dL_law_668 rfl (lv_at hl 0 rfl) ?_
  refine lv_iconst (v := 2) hx hb dL_law_669 (by decide) ?_
  refine lv_iadd hx hb dL_law_670 ?_
  refine lv_topi (fun x50 ex50 => ?_)
  have tx50 : x50.toInt = x0.toInt + 2 := (jadd ex50 rfl jz_2 (by omega) (by omega)).trans (by omega)
  refine va_sld hx hb hX hbl hbA hS (jin tx50 (by omega) (by omega)) dL_law_671 ?_
  have g51 := jrg (rfl : (xs x50.toNatClampNeg).toInt = (xs x50.toNatClampNeg).toInt)
  refine jcallV (As := [.int (xs x48.toNatClampNeg), .int (xs x50.toNatClampNeg)]) (rest := []) ⟨hx, hb, hml, hown, hts⟩ hK hP hA hS hZ (c_X11_fielded l D cI cL ad zz hJ σ τ (xs x48.toNatClampNeg) ((xs x48.toNatClampNeg).toInt) rfl (xs x50.toNatClampNeg) ((xs x50.toNatClampNeg).toInt) rfl hI2 hI16 hI22 hI31 hI26 hs_jN67 hs_jBl hs_jKb hs_jKh hs_jKg) cw_RL_77 (jc_0 cI cL ad σ τ) rfl ⟨Nat.le_of_ble_eq_true rfl, Nat.le_of_ble_eq_true rfl⟩ rfl rfl rfl hl.1 rfl (Nat.le_of_ble_eq_true rfl) dL_law_672 ⟨Nat.le_of_ble_eq_true rfl, Nat.le_of_ble_eq_true rfl⟩ (fun r53 σ52 τ52 H locs h52 hP hS => ?_)
  obtain ⟨rfl, f54, f55, I56, p57, p58, p59, p60, p61, h52⟩ := h52
  refine lv_pop hx hb dL_law_675 rfl ?_
  refine lv_aload_n hx hb dL_law_676 rfl (lv_at hl 1 rfl) ?_
  refine lv_aload_n hx hb dL_law_677 rfl (lv_at hl 3 rfl) ?_
  refine lv_iload_n hx hb dL_law_678 rfl (lv_at hl 0 rfl) ?_
  refine lv_iconst (v := 1) hx hb dL_law_679 (by decide) ?_
  refine lv_iadd hx hb dL_law_680 ?_
  refine jtopr ex48.symm ?_
  refine va_sld hx hb hX hbl hbA hS (jin tx48 (by omega) (by omega)) dL_law_681 ?_
  refine lv_aload_n hx hb dL_law_682 rfl (lv_at hl 3 rfl) ?_
  refine lv_iload_n hx hb dL_law_683 rfl (lv_at hl 0 rfl) ?_
  refine lv_iconst (v := 2) hx hb dL_law_684 (by decide) ?_
  refine lv_iadd hx hb dL_law_685 ?_
  refine jtopr ex50.symm ?_
  refine va_sld hx hb hX hbl hbA hS (jin tx50 (by omega) (by omega)) dL_law_686 ?_
  have I63 : jI101 σ52 := jI101_fr (congrFun (f54 55 (by decide)) 4) (congrFun (f54 55 (by decide)) 5) (f54 56 (by decide)) (f54 57 (by decide)) (f54 58 (by decide)) (f54 59 (by decide)) hI101
  have I64 : jI102 σ52 := jI102_fr (congrFun (f54 55 (by decide)) 6) (f54 60 (by decide)) (f54 61 (by decide)) hI102
  have I65 : jI103 σ52 := jI103_fr (congrFun (f54 55 (by decide)) 9) hI103
  have I66 : jI104 σ52 := jI104_fr (congrFun (f54 55 (by decide)) 10) (congrFun (f54 55 (by decide)) 12) (congrFun (f54 55 (by decide)) 13) (f54 62 (by decide)) (f54 67 (by decide)) hI104
  have I67 : jI105 σ52 := jI105_fr (congrFun (f54 55 (by decide)) 15) (f54 65 (by decide)) hI105
  have I68 : jI106 σ52 := jI106_fr (congrFun (f54 55 (by decide)) 32) (f54 70 (by decide)) (f54 71 (by decide)) (f54 72 (by decide)) hI106
  have I69 : jI119 σ52 := jI119_fr (f54 68 (by decide)) hI119
  have p70 : jKept σ52 := jKept.fr (f54 75 (by decide)) (f54 76 (by decide)) (f54 77 (by decide)) hs_jKept
  have p71 : jTR σ52 := jTR.fr (f54 64 (by decide)) (f54 65 (by decide)) hs_jTR
  have z72 : (σ52 55 9).toInt = (σ 55 9).toInt := (congrArg Int32.toInt (show σ52 55 9 = (σ 55 9) from (congrFun (f54 55 (by decide)) 9)))
  refine jcallV (As := [.int (xs x48.toNatClampNeg), .int (xs x50.toNatClampNeg)]) (rest := []) ⟨hx, hb, hml, hown, hts⟩ hK hP hA hS hZ (c_X12_fielded l D cI cL ad zz hJ σ52 τ (xs x48.toNatClampNeg) ((xs x48.toNatClampNeg).toInt) rfl (xs x50.toNatClampNeg) ((xs x50.toNatClampNeg).toInt) rfl I63 I64 I65 I66 I67 I68 I69 p70 p71) cw_RL_80 (jc_55 cI cL ad σ52 τ) rfl ⟨Nat.le_of_ble_eq_true rfl, Nat.le_of_ble_eq_true rfl⟩ rfl rfl rfl hl.1 rfl (Nat.le_of_ble_eq_true rfl) dL_law_687 ⟨Nat.le_of_ble_eq_true rfl, Nat.le_of_ble_eq_true rfl⟩ (fun r74 σ73 τ73 H locs h73 hP hS => ?_)
  obtain ⟨rfl, f75, f76, I77, I78, p79, p80, h73⟩ := h73
  have i82 : 0 ≤ (σ73 55 9).toInt ∧ (σ73 55 9).toInt ≤ 3 := I77
  obtain ⟨k83, h73⟩ := h73
  refine lv_pop hx hb dL_law_690 rfl ?_
  refine lv_goto (tgt := 1357) hx hb dL_law_691 (by decide) ?_
  obtain ⟨x84, ex84⟩ : ∃ y : Int32, y = x0 + 6 := ⟨_, rfl⟩
  have tx84 : x84.toInt = x0.toInt + 6 := (jadd ex84 rfl jz_6 (by omega) (by omega)).trans (by omega)
  refine lv_iinc (v := x84) (lv' := [(3, .int x84), (2, .ref (ad 55)), (1, .ref (ad 0)), (0, .ref b)]) hx hb dL_law_1357 hl (k := 0) rfl (by rw [ex84]; rfl) (by decide) rfl (fun ls hl => ?_)
  refine lv_goto (tgt := 18) hx hb dL_law_1360 (by decide) ?_
  have I85 : jI2 σ73 := jI2_fr ((congrFun (f75 2 (by decide)) 0).trans (congrFun (f54 2 (by decide)) 0)) ((congrFun (f75 2 (by decide)) 1).trans (congrFun (f54 2 (by decide)) 1)) ((congrFun (f75 2 (by decide)) 2).trans (congrFun (f54 2 (by decide)) 2)) ((congrFun (f75 2 (by decide)) 3).trans (congrFun (f54 2 (by decide)) 3)) ((f75 6 (by decide)).trans (f54 6 (by decide))) hI2
  have I86 : jI9 σ73 := jI9_fr ((congrFun (f75 9 (by decide)) 0).trans (congrFun (f54 9 (by decide)) 0)) ((f75 10 (by decide)).trans (f54 10 (by decide))) ((f75 11 (by decide)).trans (f54 11 (by decide))) hI9
  have I87 : jI12 σ73 := jI12_fr ((congrFun (f75 12 (by decide)) 0).trans (congrFun (f54 12 (by decide)) 0)) ((f75 13 (by decide)).trans (f54 13 (by decide))) hI12
  have I88 : jI16 σ73 := jI16_fr ((congrFun (f75 16 (by decide)) 0).trans (congrFun (f54 16 (by decide)) 0)) ((congrFun (f75 16 (by decide)) 1).trans (congrFun (f54 16 (by decide)) 1)) ((congrFun (f75 16 (by decide)) 2).trans (congrFun (f54 16 (by decide)) 2)) ((f75 17 (by decide)).trans (f54 17 (by decide))) hI16
  have I89 : jI18 σ73 := jI18_fr ((congrFun (f75 18 (by decide)) 0).trans (congrFun (f54 18 (by decide)) 0)) ((f75 19 (by decide)).trans (f54 19 (by decide))) hI18
  have I90 : jI22 σ73 := jI22_fr ((congrFun (f75 22 (by decide)) 0).trans (congrFun (f54 22 (by decide)) 0)) ((f75 23 (by decide)).trans (f54 23 (by decide))) hI22
  have I91 : jI31 σ73 := jI31_fr (congrFun (f75 31 (by decide)) 8) (congrFun (f75 31 (by decide)) 10) (congrFun (f75 31 (by decide)) 11) (f75 33 (by decide)) (f75 35 (by decide)) (f75 36 (by decide)) I56
  have I92 : jI38 σ73 := jI38_fr ((congrFun (f75 38 (by decide)) 0).trans (congrFun (f54 38 (by decide)) 0)) ((congrFun (f75 38 (by decide)) 1).trans (congrFun (f54 38 (by decide)) 1)) ((f75 39 (by decide)).trans (f54 39 (by decide))) hI38
  have I93 : jI43 σ73 := jI43_fr ((congrFun (f75 43 (by decide)) 8).trans (congrFun (f54 43 (by decide)) 8)) hI43
  have I94 : jI47 σ73 := jI47_fr ((congrFun (f75 47 (by decide)) 0).trans (congrFun (f54 47 (by decide)) 0)) ((f75 48 (by decide)).trans (f54 48 (by decide))) ((f75 49 (by decide)).trans (f54 49 (by decide))) hI47
  have I95 : jI50 σ73 := jI50_fr ((f75 52 (by decide)).trans (f54 52 (by decide))) hI50
  have I96 : jI0 σ73 := jI0_fr ((f75 1 (by decide)).trans (f54 1 (by decide))) hI0
  have I97 : jI26 σ73 := jI26_fr ((congrFun (f75 26 (by decide)) 6).trans (congrFun (f54 26 (by decide)) 6)) hI26
  have I98 : jI101 σ73 := jI101_fr (f76 4 (by decide)) (f76 5 (by decide)) (f75 56 (by decide)) (f75 57 (by decide)) (f75 58 (by decide)) (f75 59 (by decide)) I63
  have I99 : jI102 σ73 := jI102_fr (f76 6 (by decide)) (f75 60 (by decide)) (f75 61 (by decide)) I64
  have I100 : jI104 σ73 := jI104_fr (f76 10 (by decide)) (f76 12 (by decide)) (f76 13 (by decide)) (f75 62 (by decide)) (f75 67 (by decide)) I66
  have I101 : jI105 σ73 := jI105_fr (f76 15 (by decide)) (f75 65 (by decide)) I67
  have I102 : jI106 σ73 := jI106_fr (f76 32 (by decide)) (f75 70 (by decide)) (f75 71 (by decide)) (f75 72 (by decide)) I68
  have I103 : jI107 σ73 := jI107_fr ((f76 12 (by decide)).trans (congrFun (f54 55 (by decide)) 12)) ((f76 47 (by decide)).trans (congrFun (f54 55 (by decide)) 47)) ((f75 80 (by decide)).trans (f54 80 (by decide))) hI107
  have I104 : jI109 σ73 := jI109_fr ((f76 50 (by decide)).trans (congrFun (f54 55 (by decide)) 50)) hI109
  have I105 : jI110 σ73 := jI110_fr ((f75 86 (by decide)).trans (f54 86 (by decide))) ((f75 87 (by decide)).trans (f54 87 (by decide))) hI110
  have I106 : jI111 σ73 := jI111_fr ((f75 79 (by decide)).trans (f54 79 (by decide))) hI111
  have p107 : jBook σ73 := jBook.fr ((f76 47 (by decide)).trans (congrFun (f54 55 (by decide)) 47)) ((f76 10 (by decide)).trans (congrFun (f54 55 (by decide)) 10)) ((f75 81 (by decide)).trans (f54 81 (by decide))) hs_jBook
  have p108 : jNd12 σ73 := jNd12.fr ((congrFun (f75 12 (by decide)) 0).trans (congrFun (f54 12 (by decide)) 0)) ((congrFun (f75 12 (by decide)) 1).trans (congrFun (f54 12 (by decide)) 1)) ((f75 13 (by decide)).trans (f54 13 (by decide))) hs_jNd12
  have p109 : jN67 σ73 := jN67.fr (f75 24 (by decide)) p57
  have p110 : jBl σ73 := jBl.fr (congrFun (f75 22 (by decide)) 0) (congrFun (f75 22 (by decide)) 1) (f75 23 (by decide)) (congrFun (f75 26 (by decide)) 6) (congrFun (f75 26 (by decide)) 7) (f75 29 (by decide)) (f75 30 (by decide)) p58
  have p111 : jKb σ73 := jKb.fr (congrFun (f75 31 (by decide)) 8) (congrFun (f75 31 (by decide)) 11) (f75 32 (by decide)) p59
  have p112 : jKh σ73 := jKh.fr (congrFun (f75 31 (by decide)) 8) (f75 32 (by decide)) (f75 36 (by decide)) (f75 37 (by decide)) p60
  have p113 : jKg σ73 := jKg.fr (congrFun (f75 31 (by decide)) 8) (congrFun (f75 31 (by decide)) 9) (congrFun (f75 31 (by decide)) 11) (congrFun (f75 31 (by decide)) 12) (f75 32 (by decide)) (f75 33 (by decide)) p61
  have z114 : (σ73 2 0).toInt = (σ 2 0).toInt := (congrArg Int32.toInt (show σ73 2 0 = (σ 2 0) from ((congrFun (f75 2 (by decide)) 0).trans (congrFun (f54 2 (by decide)) 0))))
  have z115 : (σ73 55 6).toInt = (σ 55 6).toInt := (congrArg Int32.toInt (show σ73 55 6 = (σ 55 6) from ((f76 6 (by decide)).trans (congrFun (f54 55 (by decide)) 6))))
  have z116 : (σ73 2 2).toInt = (σ 2 2).toInt := (congrArg Int32.toInt (show σ73 2 2 = (σ 2 2) from ((congrFun (f75 2 (by decide)) 2).trans (congrFun (f54 2 (by decide)) 2))))
  have z117 : (σ73 55 5).toInt = (σ 55 5).toInt := (congrArg Int32.toInt (show σ73 55 5 = (σ 55 5) from ((f76 5 (by decide)).trans (congrFun (f54 55 (by decide)) 5))))
  have z118 : (σ73 2 3).toInt = (σ 2 3).toInt := (congrArg Int32.toInt (show σ73 2 3 = (σ 2 3) from ((congrFun (f75 2 (by decide)) 3).trans (congrFun (f54 2 (by decide)) 3))))
  have z119 : (σ73 55 4).toInt = (σ 55 4).toInt := (congrArg Int32.toInt (show σ73 55 4 = (σ 55 4) from ((f76 4 (by decide)).trans (congrFun (f54 55 (by decide)) 4))))
  have z120 : (σ73 9 0).toInt = (σ 9 0).toInt := (congrArg Int32.toInt (show σ73 9 0 = (σ 9 0) from ((congrFun (f75 9 (by decide)) 0).trans (congrFun (f54 9 (by decide)) 0))))
  have z121 : (σ73 55 15).toInt = (σ 55 15).toInt := (congrArg Int32.toInt (show σ73 55 15 = (σ 55 15) from ((f76 15 (by decide)).trans (congrFun (f54 55 (by decide)) 15))))
  have z122 : (σ73 16 0).toInt = (σ 16 0).toInt := (congrArg Int32.toInt (show σ73 16 0 = (σ 16 0) from ((congrFun (f75 16 (by decide)) 0).trans (congrFun (f54 16 (by decide)) 0))))
  have z123 : (σ73 55 10).toInt = (σ 55 10).toInt := (congrArg Int32.toInt (show σ73 55 10 = (σ 55 10) from ((f76 10 (by decide)).trans (congrFun (f54 55 (by decide)) 10))))
  have z124 : (σ73 16 1).toInt = (σ 16 1).toInt := (congrArg Int32.toInt (show σ73 16 1 = (σ 16 1) from ((congrFun (f75 16 (by decide)) 1).trans (congrFun (f54 16 (by decide)) 1))))
  have z125 : (σ73 55 12).toInt = (σ 55 12).toInt := (congrArg Int32.toInt (show σ73 55 12 = (σ 55 12) from ((f76 12 (by decide)).trans (congrFun (f54 55 (by decide)) 12))))
  have z126 : (σ73 16 2).toInt = (σ 16 2).toInt := (congrArg Int32.toInt (show σ73 16 2 = (σ 16 2) from ((congrFun (f75 16 (by decide)) 2).trans (congrFun (f54 16 (by decide)) 2))))
  have z127 : (σ73 55 13).toInt = (σ 55 13).toInt := (congrArg Int32.toInt (show σ73 55 13 = (σ 55 13) from ((f76 13 (by decide)).trans (congrFun (f54 55 (by decide)) 13))))
  have z128 : (σ73 38 0).toInt = (σ 38 0).toInt := (congrArg Int32.toInt (show σ73 38 0 = (σ 38 0) from ((congrFun (f75 38 (by decide)) 0).trans (congrFun (f54 38 (by decide)) 0))))
  have z129 : (σ73 55 32).toInt = (σ 55 32).toInt := (congrArg Int32.toInt (show σ73 55 32 = (σ 55 32) from ((f76 32 (by decide)).trans (congrFun (f54 55 (by decide)) 32))))
  have z130 : (σ73 38 1).toInt = (σ 38 1).toInt := (congrArg Int32.toInt (show σ73 38 1 = (σ 38 1) from ((congrFun (f75 38 (by decide)) 1).trans (congrFun (f54 38 (by decide)) 1))))
  have z131 : (σ73 55 55).toInt = (σ 55 55).toInt := (congrArg Int32.toInt (show σ73 55 55 = (σ 55 55) from ((f76 55 (by decide)).trans (congrFun (f54 55 (by decide)) 55))))
  have z132 : (σ73 47 0).toInt = (σ 47 0).toInt := (congrArg Int32.toInt (show σ73 47 0 = (σ 47 0) from ((congrFun (f75 47 (by decide)) 0).trans (congrFun (f54 47 (by decide)) 0))))
  have z133 : (σ73 55 47).toInt = (σ 55 47).toInt := (congrArg Int32.toInt (show σ73 55 47 = (σ 55 47) from ((f76 47 (by decide)).trans (congrFun (f54 55 (by decide)) 47))))
  have z134 : (σ73 55 30).toInt = (σ 55 30).toInt := (congrArg Int32.toInt (show σ73 55 30 = (σ 55 30) from ((f76 30 (by decide)).trans (congrFun (f54 55 (by decide)) 30))))
  have z135 : (σ73 55 31).toInt = (σ 55 31).toInt := (congrArg Int32.toInt (show σ73 55 31 = (σ 55 31) from ((f76 31 (by decide)).trans (congrFun (f54 55 (by decide)) 31))))
  have z136 : (σ73 2 1).toInt = (σ 2 1).toInt := (congrArg Int32.toInt (show σ73 2 1 = (σ 2 1) from ((congrFun (f75 2 (by decide)) 1).trans (congrFun (f54 2 (by decide)) 1))))
  have z137 : (σ73 26 6).toInt = (σ 26 6).toInt := (congrArg Int32.toInt (show σ73 26 6 = (σ 26 6) from ((congrFun (f75 26 (by decide)) 6).trans (congrFun (f54 26 (by decide)) 6))))
  have z139 : (σ73 18 0).toInt = (σ 18 0).toInt := (congrArg Int32.toInt (show σ73 18 0 = (σ 18 0) from ((congrFun (f75 18 (by decide)) 0).trans (congrFun (f54 18 (by decide)) 0))))
  have z140 : (σ73 22 0).toInt = (σ 22 0).toInt := (congrArg Int32.toInt (show σ73 22 0 = (σ 22 0) from ((congrFun (f75 22 (by decide)) 0).trans (congrFun (f54 22 (by decide)) 0))))
  exact ih x84 σ73 τ _ _ ls (by have h9 := tx84; omega) ⟨I85, I86, I87, I88, I89, I90, I91, I92, I93, I94, I95, I96, I97, I98, I99, I77, I100, I101, I102, I103, I104, I105, I106, I78, p79, p107, p108, p109, p110, p111, p80, p112, p113, (by omega), (by omega), (by omega), (by omega), (by omega), (by omega), (by omega), (by omega), (by omega), (by omega), (by omega), (by omega), (by omega), (by have h9 := tx84; omega), (show jNumP (σ73 3) (σ73 56) (σ73 6) (σ73 57) (σ73 7) (σ73 58) (σ73 8) (σ73 59) (σ73 55 6).toInt (σ73 55 4).toInt by rw [show σ73 3 = σ 3 from ((f75 3 (by decide)).trans (f54 3 (by decide))), show σ73 56 = σ 56 from ((f75 56 (by decide)).trans (f54 56 (by decide))), show σ73 6 = σ 6 from ((f75 6 (by decide)).trans (f54 6 (by decide))), show σ73 57 = σ 57 from ((f75 57 (by decide)).trans (f54 57 (by decide))), show σ73 7 = σ 7 from ((f75 7 (by decide)).trans (f54 7 (by decide))), show σ73 58 = σ 58 from ((f75 58 (by decide)).trans (f54 58 (by decide))), show σ73 8 = σ 8 from ((f75 8 (by decide)).trans (f54 8 (by decide))), show σ73 59 = σ 59 from ((f75 59 (by decide)).trans (f54 59 (by decide))), show (σ73 55 6).toInt = (σ 55 6).toInt from by omega, show (σ73 55 4).toInt = (σ 55 4).toInt from by omega]; exact hr0), (show jOvP (σ73 56) (σ73 57) (σ73 58) (σ73 59) (σ73 55 4).toInt by rw [show σ73 56 = σ 56 from ((f75 56 (by decide)).trans (f54 56 (by decide))), show σ73 57 = σ 57 from ((f75 57 (by decide)).trans (f54 57 (by decide))), show σ73 58 = σ 58 from ((f75 58 (by decide)).trans (f54 58 (by decide))), show σ73 59 = σ 59 from ((f75 59 (by decide)).trans (f54 59 (by decide))), show (σ73 55 4).toInt = (σ 55 4).toInt from by omega]; exact hr1), (show jTp (σ73 10) (σ73 63) (σ73 55 15).toInt by rw [show σ73 10 = σ 10 from ((f75 10 (by decide)).trans (f54 10 (by decide))), show σ73 63 = σ 63 from ((f75 63 (by decide)).trans (f54 63 (by decide)))]; exact hr2.le (by omega)), (show jSo (σ73 17) (σ73 62) (σ73 16 0).toInt by rw [show σ73 17 = σ 17 from ((f75 17 (by decide)).trans (f54 17 (by decide))), show σ73 62 = σ 62 from ((f75 62 (by decide)).trans (f54 62 (by decide))), show (σ73 16 0).toInt = (σ 16 0).toInt from by omega]; exact hr3), (show jShP (σ73 51) (σ73 52) (σ73 53) (σ73 86) (σ73 87) (σ73 55 32).toInt by rw [show σ73 51 = σ 51 from ((f75 51 (by decide)).trans (f54 51 (by decide))), show σ73 52 = σ 52 from ((f75 52 (by decide)).trans (f54 52 (by decide))), show σ73 53 = σ 53 from ((f75 53 (by decide)).trans (f54 53 (by decide))), show σ73 86 = σ 86 from ((f75 86 (by decide)).trans (f54 86 (by decide))), show σ73 87 = σ 87 from ((f75 87 (by decide)).trans (f54 87 (by decide)))]; exact (hr4.up (by omega) (by omega))), (show jEl (σ73 51) (σ73 52) (τ 54) (τ 88) by rw [show σ73 51 = σ 51 from ((f75 51 (by decide)).trans (f54 51 (by decide))), show σ73 52 = σ 52 from ((f75 52 (by decide)).trans (f54 52 (by decide)))]; exact hr5), (show jByP (σ73 51) (σ73 52) (τ 54) by rw [show σ73 51 = σ 51 from ((f75 51 (by decide)).trans (f54 51 (by decide))), show σ73 52 = σ 52 from ((f75 52 (by decide)).trans (f54 52 (by decide)))]; exact hr6), (show jBk (σ73 48) (σ73 80) (σ73 49) (σ73 81) (σ73 55 47).toInt by rw [show σ73 48 = σ 48 from ((f75 48 (by decide)).trans (f54 48 (by decide))), show σ73 49 = σ 49 from ((f75 49 (by decide)).trans (f54 49 (by decide))), show σ73 80 = σ 80 from ((f75 80 (by decide)).trans (f54 80 (by decide))), show σ73 81 = σ 81 from ((f75 81 (by decide)).trans (f54 81 (by decide))), show (σ73 55 47).toInt = (σ 55 47).toInt from by omega]; exact hr7), (show jKd (σ73 39) (σ73 70) (σ73 55 32).toInt by rw [show σ73 39 = σ 39 from ((f75 39 (by decide)).trans (f54 39 (by decide))), show σ73 70 = σ 70 from ((f75 70 (by decide)).trans (f54 70 (by decide))), show (σ73 55 32).toInt = (σ 55 32).toInt from by omega]; exact hr8), (show jTt (σ73 42) (σ73 85) (σ73 55 55).toInt by rw [show σ73 42 = σ 42 from ((f75 42 (by decide)).trans (f54 42 (by decide))), show σ73 85 = σ 85 from ((f75 85 (by decide)).trans (f54 85 (by decide))), show (σ73 55 55).toInt = (σ 55 55).toInt from by omega]; exact hr9), (fun k hk => by rw [show σ73 4 = σ 4 from ((f75 4 (by decide)).trans (f54 4 (by decide))), show σ73 5 = σ 5 from ((f75 5 (by decide)).trans (f54 5 (by decide))), show σ73 60 = σ 60 from ((f75 60 (by decide)).trans (f54 60 (by decide))), show σ73 61 = σ 61 from ((f75 61 (by decide)).trans (f54 61 (by decide)))]; exact hr10 k (by omega)), (fun nm => by rw [show σ73 19 = σ 19 from ((f75 19 (by decide)).trans (f54 19 (by decide))), show σ73 64 = σ 64 from ((f75 64 (by decide)).trans (f54 64 (by decide))), show σ73 65 = σ 65 from ((f75 65 (by decide)).trans (f54 65 (by decide))), show (σ73 18 0).toInt = (σ 18 0).toInt from by omega]; exact hr11 nm), (fun nm => by rw [show σ73 23 = σ 23 from ((f75 23 (by decide)).trans (f54 23 (by decide))), show σ73 64 = σ 64 from ((f75 64 (by decide)).trans (f54 64 (by decide))), show σ73 65 = σ 65 from ((f75 65 (by decide)).trans (f54 65 (by decide))), show (σ73 22 0).toInt = (σ 22 0).toInt from by omega]; exact hr12 nm)⟩ hP hS (lv_sub hl [0, 1, 2, 3] rfl)
set_option maxHeartbeats 4000000 in
set_option maxRecDepth 100000 in
theorem law_case_16 {p : Program} {e : Env} {s : State} {m : MethodId} {below : List Frame} {meth : Method} {c : Code} (l : Launch) {b L : Nat} {xs : Nat → Int32} {D : va_G} {cI cL : ClassId} {ad zz : Nat → Nat} (C0 : lw_At p s m meth c b L xs) (hJ : jD ad) (hA : ∀ q, jA ad q → s.heap.size ≤ q) (hK : jK D cI cL s) (hZ : jZ zz (fun q : Nat => s.heap.size ≤ q) s s.heap) {x0 : Int32} (hx0 : 0 ≤ x0.toInt) (hxL : x0.toInt + 6 ≤ (L : Int)) (hL : L ≤ 384) {σ : Nat → Nat → Int32} {τ : Nat → Nat → Int64} {H : Heap} {locs : List Loc} (hS : va_S (fun q : Nat => s.heap.size ≤ q) s.heap H locs) {ls : Array Slot} (hAll : jAll x0.toInt σ τ) (hP : jH D cI cL ad σ τ H) (hl : lv_has ls 4 [(3, .int x0), (2, .ref (ad 55)), (1, .ref (ad 0)), (0, .ref b)]) (ih : ∀ (x1 : Int32) (σ : Nat → Nat → Int32) (τ : Nat → Nat → Int64) (H : Heap) (locs : List Loc) (ls : Array Slot), x1.toInt = x0.toInt + 6 → jAll x1.toInt σ τ → jH D cI cL ad σ τ H → va_S (fun q : Nat => s.heap.size ≤ q) s.heap H locs → lv_has ls 4 [(3, .int x1), (2, .ref (ad 55)), (1, .ref (ad 0)), (0, .ref b)] → W p l e room_1 s m #[Value.ref b] below meth c H locs 90 348600 (lw_Z below #[Value.ref b] s) (F0 m 18 ls [])) : W p l e room_1 s m #[Value.ref b] below meth c H locs 90 348600 (lw_Z below #[Value.ref b] s) (F0 m 694 ls []) := by
  obtain ⟨hx, hb, hr, hml, hown, hts0, hX, hbl, hlocks, hgv⟩ := C0
  have hts : ∀ w ∈ wsL_law, w.before #[Value.ref b] s = true := fun w h => hts0 w (wsL_law_in w h)
  have hbA : ¬ (fun q : Nat => s.heap.size ≤ q) b := Nat.not_le.mpr hbl
  have hown : s.vm.findClass RL = some m.cls := hown
  obtain ⟨hI2, hI9, hI12, hI16, hI18, hI22, hI31, hI38, hI43, hI47, hI50, hI0, hI26, hI101, hI102, hI103, hI104, hI105, hI106, hI107, hI109, hI110, hI111, hI119, hs_jKept, hs_jBook, hs_jNd12, hs_jN67, hs_jBl, hs_jKb, hs_jTR, hs_jKh, hs_jKg, ht0, ht1, ht2, ht3, ht4, ht5, ht6, ht7, ht8, ht9, ht10, ht11, ht12, ht13, hr0, hr1, hr2, hr3, hr4, hr5, hr6, hr7, hr8, hr9, hr10, hr11, hr12⟩ := hAll
  have hL9 : (L : Int) ≤ 384 := by omega
  obtain ⟨i1, i2, i3, i4, i5, w6⟩ : (0 ≤ (σ 2 0).toInt ∧ (σ 2 0).toInt ≤ 4) ∧ (0 ≤ (σ 2 1).toInt ∧ (σ 2 1).toInt ≤ 3) ∧ (0 ≤ (σ 2 2).toInt) ∧ (0 ≤ (σ 2 3).toInt) ∧ ((σ 2 2).toInt + (σ 2 3).toInt ≤ 40) ∧ (∀ k : Nat, k < 40 → 0 ≤ (σ 6 k).toInt ∧ (σ 6 k).toInt ≤ 67) := id hI2
  obtain ⟨i7, w8, w9⟩ : (0 ≤ (σ 9 0).toInt ∧ (σ 9 0).toInt ≤ 80) ∧ (∀ k : Nat, k < 80 → 0 ≤ (σ 10 k).toInt ∧ (σ 10 k).toInt ≤ 255) ∧ (∀ k : Nat, k < 8 → 0 ≤ (σ 11 k).toInt ∧ (σ 11 k).toInt ≤ 3) := id hI9
  obtain ⟨i10, i11, i12, w13⟩ : (1 ≤ (σ 16 0).toInt ∧ (σ 16 0).toInt ≤ 8) ∧ (1 ≤ (σ 16 1).toInt ∧ (σ 16 1).toInt ≤ 12) ∧ (0 ≤ (σ 16 2).toInt ∧ (σ 16 2).toInt ≤ 999) ∧ (∀ k : Nat, k < 8 → 0 ≤ (σ 17 k).toInt ∧ (σ 17 k).toInt ≤ 3) := id hI16
  obtain ⟨i14, i15, w16⟩ : (0 ≤ (σ 38 0).toInt ∧ (σ 38 0).toInt ≤ 20) ∧ (0 ≤ (σ 38 1).toInt ∧ (σ 38 1).toInt ≤ 1000) ∧ (∀ k : Nat, k < 20 → 0 ≤ (σ 39 k).toInt ∧ (σ 39 k).toInt ≤ 6) := id hI38
  obtain ⟨i17, w18, w19⟩ : (0 ≤ (σ 47 0).toInt ∧ (σ 47 0).toInt ≤ 12) ∧ (∀ k : Nat, k < 12 → 0 ≤ (σ 48 k).toInt ∧ (σ 48 k).toInt ≤ 3) ∧ (∀ k : Nat, k < 12 → 0 ≤ (σ 49 k).toInt ∧ (σ 49 k).toInt ≤ 1) := id hI47
  have w20 : ∀ k : Nat, k < 6 → 0 ≤ (σ 52 k).toInt ∧ (σ 52 k).toInt ≤ 60 := hI50
  have i21 : 1 ≤ (σ 26 6).toInt ∧ (σ 26 6).toInt ≤ 8000 := hI26
  obtain ⟨i22, i23, i24, w25, w26, w27, w28⟩ : (0 ≤ (σ 55 5).toInt) ∧ ((σ 55 5).toInt ≤ (σ 55 4).toInt) ∧ ((σ 55 4).toInt ≤ 40) ∧ (∀ k : Nat, k < 68 → (-200) ≤ (σ 56 k).toInt ∧ (σ 56 k).toInt ≤ 500) ∧ (∀ k : Nat, k < 40 → 0 ≤ (σ 57 k).toInt ∧ (σ 57 k).toInt ≤ 67) ∧ (∀ k : Nat, k < 40 → (-200) ≤ (σ 58 k).toInt ∧ (σ 58 k).toInt ≤ 500) ∧ (∀ k : Nat, k < 40 → (-200) ≤ (σ 59 k).toInt ∧ (σ 59 k).toInt ≤ 500) := id hI101
  obtain ⟨i29, w30, w31⟩ : (0 ≤ (σ 55 6).toInt ∧ (σ 55 6).toInt ≤ 4) ∧ (∀ k : Nat, k < 4 → 0 ≤ (σ 60 k).toInt ∧ (σ 60 k).toInt ≤ 50) ∧ (∀ k : Nat, k < 4 → 0 ≤ (σ 61 k).toInt ∧ (σ 61 k).toInt ≤ 20) := id hI102
  have i32 : 0 ≤ (σ 55 9).toInt ∧ (σ 55 9).toInt ≤ 3 := hI103
  obtain ⟨i33, i34, i35, w36, w37⟩ : (1 ≤ (σ 55 10).toInt ∧ (σ 55 10).toInt ≤ 8) ∧ (1 ≤ (σ 55 12).toInt ∧ (σ 55 12).toInt ≤ 12) ∧ (0 ≤ (σ 55 13).toInt ∧ (σ 55 13).toInt ≤ 999) ∧ (∀ k : Nat, k < 8 → 0 ≤ (σ 62 k).toInt ∧ (σ 62 k).toInt ≤ 3) ∧ (∀ k : Nat, k < 8 → 0 ≤ (σ 67 k).toInt ∧ (σ 67 k).toInt ≤ 3) := id hI104
  obtain ⟨i38, w39⟩ : (0 ≤ (σ 55 15).toInt ∧ (σ 55 15).toInt ≤ 80) ∧ (∀ k : Nat, k < 2 → (-1) ≤ (σ 65 k).toInt ∧ (σ 65 k).toInt ≤ 80) := id hI105
  obtain ⟨i40, w41, w42, w43⟩ : (0 ≤ (σ 55 32).toInt ∧ (σ 55 32).toInt ≤ 20) ∧ (∀ k : Nat, k < 20 → 0 ≤ (σ 70 k).toInt ∧ (σ 70 k).toInt ≤ 6) ∧ (∀ k : Nat, k < 20 → 0 ≤ (σ 71 k).toInt ∧ (σ 71 k).toInt ≤ 8) ∧ (∀ k : Nat, k < 160 → 0 ≤ (σ 72 k).toInt ∧ (σ 72 k).toInt ≤ 3) := id hI106
  obtain ⟨i44, i45, w46⟩ : (0 ≤ (σ 55 47).toInt ∧ (σ 55 47).toInt ≤ 12) ∧ ((σ 55 47).toInt ≤ (σ 55 12).toInt) ∧ (∀ k : Nat, k < 12 → 0 ≤ (σ 80 k).toInt ∧ (σ 80 k).toInt ≤ 3) := id hI107
  have hs_jOk3 : jOk3 σ := hr0.ok hr1.1
  refine lv_aload_n hx hb dL_law_694 rfl (lv_at hl 2 rfl) ?_
  refine lv_aload_n hx hb dL_law_695 rfl (lv_at hl 3 rfl) ?_
  refine lv_iload_n hx hb dL_law_696 rfl (lv_at hl 0 rfl) ?_
  refine lv_iconst (v := 1) hx hb dL_law_697 (by decide) ?_
  have g47 := jrg (rfl : x0.toInt = x0.toInt)
  refine lv_iadd hx hb dL_law_698 ?_
  refine lv_topi (fun x48 ex48 => ?_)
  have tx48 : x48.toInt = x0.toInt + 1 := (jadd ex48 rfl jz_1 (by omega) (by omega)).trans (by omega)
  refine va_sld hx hb hX hbl hbA hS (jin tx48 (by omega) (by omega)) dL_law_699 ?_
  have g49 := jrg (rfl : (xs x48.toNatClampNeg).toInt = (xs x48.toNatClampNeg).toInt)
  refine jcallV (As := [.int (xs x48.toNatClampNeg)]) (rest := []) ⟨hx, hb, hml, hown, hts⟩ hK hP hA hS hZ (c_X11_kept l D cI cL ad zz hJ σ τ (xs x48.toNatClampNeg) ((xs x48.toNatClampNeg).toInt) rfl hI2 hI16 hI22 hI31 hI26 hs_jN67 hs_jBl hs_jKb hs_jKh hs_jKg) cw_RL_81 (jc_0 cI cL ad σ τ) rfl ⟨Nat.le_of_ble_eq_true rfl, Nat.le_of_ble_eq_true rfl⟩ rfl rfl rfl hl.1 rfl (Nat.le_of_ble_eq_true rfl) dL_law_700 ⟨Nat.le_of_ble_eq_true rfl, Nat.le_of_ble_eq_true rfl⟩ (fun r51 σ50 τ50 H locs h50 hP hS => ?_)
  obtain ⟨rfl, f52, f53, I54, p55, p56, p57, p58, p59, h50⟩ := h50
  refine lv_pop hx hb dL_law_703 rfl ?_
  refine lv_aload_n hx hb dL_law_704 rfl (lv_at hl 1 rfl) ?_
  refine lv_aload_n hx hb dL_law_705 rfl (lv_at hl 3 rfl) ?_
  refine lv_iload_n hx hb dL_law_706 rfl (lv_at hl 0 rfl) ?_
  refine lv_iconst (v := 1) hx hb dL_law_707 (by decide) ?_
  refine lv_iadd hx hb dL_law_708 ?_
  refine jtopr ex48.symm ?_
  refine va_sld hx hb hX hbl hbA hS (jin tx48 (by omega) (by omega)) dL_law_709 ?_
  have I61 : jI101 σ50 := jI101_fr (congrFun (f52 55 (by decide)) 4) (congrFun (f52 55 (by decide)) 5) (f52 56 (by decide)) (f52 57 (by decide)) (f52 58 (by decide)) (f52 59 (by decide)) hI101
  have I62 : jI102 σ50 := jI102_fr (congrFun (f52 55 (by decide)) 6) (f52 60 (by decide)) (f52 61 (by decide)) hI102
  have I63 : jI103 σ50 := jI103_fr (congrFun (f52 55 (by decide)) 9) hI103
  have I64 : jI104 σ50 := jI104_fr (congrFun (f52 55 (by decide)) 10) (congrFun (f52 55 (by decide)) 12) (congrFun (f52 55 (by decide)) 13) (f52 62 (by decide)) (f52 67 (by decide)) hI104
  have I65 : jI105 σ50 := jI105_fr (congrFun (f52 55 (by decide)) 15) (f52 65 (by decide)) hI105
  have I66 : jI106 σ50 := jI106_fr (congrFun (f52 55 (by decide)) 32) (f52 70 (by decide)) (f52 71 (by decide)) (f52 72 (by decide)) hI106
  have I67 : jI119 σ50 := jI119_fr (f52 68 (by decide)) hI119
  have p68 : jKept σ50 := jKept.fr (f52 75 (by decide)) (f52 76 (by decide)) (f52 77 (by decide)) hs_jKept
  have p69 : jTR σ50 := jTR.fr (f52 64 (by decide)) (f52 65 (by decide)) hs_jTR
  refine jcallV (As := [.int (xs x48.toNatClampNeg)]) (rest := []) ⟨hx, hb, hml, hown, hts⟩ hK hP hA hS hZ (c_X12_kept l D cI cL ad zz hJ σ50 τ (xs x48.toNatClampNeg) ((xs x48.toNatClampNeg).toInt) rfl I61 I62 I63 I64 I65 I66 I67 p68 p69) cw_RL_84 (jc_55 cI cL ad σ50 τ) rfl ⟨Nat.le_of_ble_eq_true rfl, Nat.le_of_ble_eq_true rfl⟩ rfl rfl rfl hl.1 rfl (Nat.le_of_ble_eq_true rfl) dL_law_710 ⟨Nat.le_of_ble_eq_true rfl, Nat.le_of_ble_eq_true rfl⟩ (fun r71 σ70 τ70 H locs h70 hP hS => ?_)
  obtain ⟨rfl, f72, f73, I74, p75, p76, h70⟩ := h70
  refine lv_pop hx hb dL_law_713 rfl ?_
  refine lv_goto (tgt := 1357) hx hb dL_law_714 (by decide) ?_
  obtain ⟨x78, ex78⟩ : ∃ y : Int32, y = x0 + 6 := ⟨_, rfl⟩
  have tx78 : x78.toInt = x0.toInt + 6 := (jadd ex78 rfl jz_6 (by omega) (by omega)).trans (by omega)
  refine lv_iinc (v := x78) (lv' := [(3, .int x78), (2, .ref (ad 55)), (1, .ref (ad 0)), (0, .ref b)]) hx hb dL_law_1357 hl (k := 0) rfl (by rw [ex78]; rfl) (by decide) rfl (fun ls hl => ?_)
  refine lv_goto (tgt := 18) hx hb dL_law_1360 (by decide) ?_
  have I79 : jI2 σ70 := jI2_fr ((congrFun (f72 2 (by decide)) 0).trans (congrFun (f52 2 (by decide)) 0)) ((congrFun (f72 2 (by decide)) 1).trans (congrFun (f52 2 (by decide)) 1)) ((congrFun (f72 2 (by decide)) 2).trans (congrFun (f52 2 (by decide)) 2)) ((congrFun (f72 2 (by decide)) 3).trans (congrFun (f52 2 (by decide)) 3)) ((f72 6 (by decide)).trans (f52 6 (by decide))) hI2
  have I80 : jI9 σ70 := jI9_fr ((congrFun (f72 9 (by decide)) 0).trans (congrFun (f52 9 (by decide)) 0)) ((f72 10 (by decide)).trans (f52 10 (by decide))) ((f72 11 (by decide)).trans (f52 11 (by decide))) hI9
  have I81 : jI12 σ70 := jI12_fr ((congrFun (f72 12 (by decide)) 0).trans (congrFun (f52 12 (by decide)) 0)) ((f72 13 (by decide)).trans (f52 13 (by decide))) hI12
  have I82 : jI16 σ70 := jI16_fr ((congrFun (f72 16 (by decide)) 0).trans (congrFun (f52 16 (by decide)) 0)) ((congrFun (f72 16 (by decide)) 1).trans (congrFun (f52 16 (by decide)) 1)) ((congrFun (f72 16 (by decide)) 2).trans (congrFun (f52 16 (by decide)) 2)) ((f72 17 (by decide)).trans (f52 17 (by decide))) hI16
  have I83 : jI18 σ70 := jI18_fr ((congrFun (f72 18 (by decide)) 0).trans (congrFun (f52 18 (by decide)) 0)) ((f72 19 (by decide)).trans (f52 19 (by decide))) hI18
  have I84 : jI22 σ70 := jI22_fr ((congrFun (f72 22 (by decide)) 0).trans (congrFun (f52 22 (by decide)) 0)) ((f72 23 (by decide)).trans (f52 23 (by decide))) hI22
  have I85 : jI31 σ70 := jI31_fr (congrFun (f72 31 (by decide)) 8) (congrFun (f72 31 (by decide)) 10) (congrFun (f72 31 (by decide)) 11) (f72 33 (by decide)) (f72 35 (by decide)) (f72 36 (by decide)) I54
  have I86 : jI38 σ70 := jI38_fr ((congrFun (f72 38 (by decide)) 0).trans (congrFun (f52 38 (by decide)) 0)) ((congrFun (f72 38 (by decide)) 1).trans (congrFun (f52 38 (by decide)) 1)) ((f72 39 (by decide)).trans (f52 39 (by decide))) hI38
  have I87 : jI43 σ70 := jI43_fr ((congrFun (f72 43 (by decide)) 8).trans (congrFun (f52 43 (by decide)) 8)) hI43
  have I88 : jI47 σ70 := jI47_fr ((congrFun (f72 47 (by decide)) 0).trans (congrFun (f52 47 (by decide)) 0)) ((f72 48 (by decide)).trans (f52 48 (by decide))) ((f72 49 (by decide)).trans (f52 49 (by decide))) hI47
  have I89 : jI50 σ70 := jI50_fr ((f72 52 (by decide)).trans (f52 52 (by decide))) hI50
  have I90 : jI0 σ70 := jI0_fr ((f72 1 (by decide)).trans (f52 1 (by decide))) hI0
  have I91 : jI26 σ70 := jI26_fr ((congrFun (f72 26 (by decide)) 6).trans (congrFun (f52 26 (by decide)) 6)) hI26
  have I92 : jI101 σ70 := jI101_fr (f73 4 (by decide)) (f73 5 (by decide)) (f72 56 (by decide)) (f72 57 (by decide)) (f72 58 (by decide)) (f72 59 (by decide)) I61
  have I93 : jI102 σ70 := jI102_fr (f73 6 (by decide)) (f72 60 (by decide)) (f72 61 (by decide)) I62
  have I94 : jI103 σ70 := jI103_fr (f73 9 (by decide)) I63
  have I95 : jI104 σ70 := jI104_fr (f73 10 (by decide)) (f73 12 (by decide)) (f73 13 (by decide)) (f72 62 (by decide)) (f72 67 (by decide)) I64
  have I96 : jI105 σ70 := jI105_fr (f73 15 (by decide)) (f72 65 (by decide)) I65
  have I97 : jI106 σ70 := jI106_fr (f73 32 (by decide)) (f72 70 (by decide)) (f72 71 (by decide)) (f72 72 (by decide)) I66
  have I98 : jI107 σ70 := jI107_fr ((f73 12 (by decide)).trans (congrFun (f52 55 (by decide)) 12)) ((f73 47 (by decide)).trans (congrFun (f52 55 (by decide)) 47)) ((f72 80 (by decide)).trans (f52 80 (by decide))) hI107
  have I99 : jI109 σ70 := jI109_fr ((f73 50 (by decide)).trans (congrFun (f52 55 (by decide)) 50)) hI109
  have I100 : jI110 σ70 := jI110_fr ((f72 86 (by decide)).trans (f52 86 (by decide))) ((f72 87 (by decide)).trans (f52 87 (by decide))) hI110
  have I101 : jI111 σ70 := jI111_fr ((f72 79 (by decide)).trans (f52 79 (by decide))) hI111
  have p102 : jBook σ70 := jBook.fr ((f73 47 (by decide)).trans (congrFun (f52 55 (by decide)) 47)) ((f73 10 (by decide)).trans (congrFun (f52 55 (by decide)) 10)) ((f72 81 (by decide)).trans (f52 81 (by decide))) hs_jBook
  have p103 : jNd12 σ70 := jNd12.fr ((congrFun (f72 12 (by decide)) 0).trans (congrFun (f52 12 (by decide)) 0)) ((congrFun (f72 12 (by decide)) 1).trans (congrFun (f52 12 (by decide)) 1)) ((f72 13 (by decide)).trans (f52 13 (by decide))) hs_jNd12
  have p104 : jN67 σ70 := jN67.fr (f72 24 (by decide)) p55
  have p105 : jBl σ70 := jBl.fr (congrFun (f72 22 (by decide)) 0) (congrFun (f72 22 (by decide)) 1) (f72 23 (by decide)) (congrFun (f72 26 (by decide)) 6) (congrFun (f72 26 (by decide)) 7) (f72 29 (by decide)) (f72 30 (by decide)) p56
  have p106 : jKb σ70 := jKb.fr (congrFun (f72 31 (by decide)) 8) (congrFun (f72 31 (by decide)) 11) (f72 32 (by decide)) p57
  have p107 : jKh σ70 := jKh.fr (congrFun (f72 31 (by decide)) 8) (f72 32 (by decide)) (f72 36 (by decide)) (f72 37 (by decide)) p58
  have p108 : jKg σ70 := jKg.fr (congrFun (f72 31 (by decide)) 8) (congrFun (f72 31 (by decide)) 9) (congrFun (f72 31 (by decide)) 11) (congrFun (f72 31 (by decide)) 12) (f72 32 (by decide)) (f72 33 (by decide)) p59
  have z109 : (σ70 2 0).toInt = (σ 2 0).toInt := (congrArg Int32.toInt (show σ70 2 0 = (σ 2 0) from ((congrFun (f72 2 (by decide)) 0).trans (congrFun (f52 2 (by decide)) 0))))
  have z110 : (σ70 55 6).toInt = (σ 55 6).toInt := (congrArg Int32.toInt (show σ70 55 6 = (σ 55 6) from ((f73 6 (by decide)).trans (congrFun (f52 55 (by decide)) 6))))
  have z111 : (σ70 2 2).toInt = (σ 2 2).toInt := (congrArg Int32.toInt (show σ70 2 2 = (σ 2 2) from ((congrFun (f72 2 (by decide)) 2).trans (congrFun (f52 2 (by decide)) 2))))
  have z112 : (σ70 55 5).toInt = (σ 55 5).toInt := (congrArg Int32.toInt (show σ70 55 5 = (σ 55 5) from ((f73 5 (by decide)).trans (congrFun (f52 55 (by decide)) 5))))
  have z113 : (σ70 2 3).toInt = (σ 2 3).toInt := (congrArg Int32.toInt (show σ70 2 3 = (σ 2 3) from ((congrFun (f72 2 (by decide)) 3).trans (congrFun (f52 2 (by decide)) 3))))
  have z114 : (σ70 55 4).toInt = (σ 55 4).toInt := (congrArg Int32.toInt (show σ70 55 4 = (σ 55 4) from ((f73 4 (by decide)).trans (congrFun (f52 55 (by decide)) 4))))
  have z115 : (σ70 9 0).toInt = (σ 9 0).toInt := (congrArg Int32.toInt (show σ70 9 0 = (σ 9 0) from ((congrFun (f72 9 (by decide)) 0).trans (congrFun (f52 9 (by decide)) 0))))
  have z116 : (σ70 55 15).toInt = (σ 55 15).toInt := (congrArg Int32.toInt (show σ70 55 15 = (σ 55 15) from ((f73 15 (by decide)).trans (congrFun (f52 55 (by decide)) 15))))
  have z117 : (σ70 16 0).toInt = (σ 16 0).toInt := (congrArg Int32.toInt (show σ70 16 0 = (σ 16 0) from ((congrFun (f72 16 (by decide)) 0).trans (congrFun (f52 16 (by decide)) 0))))
  have z118 : (σ70 55 10).toInt = (σ 55 10).toInt := (congrArg Int32.toInt (show σ70 55 10 = (σ 55 10) from ((f73 10 (by decide)).trans (congrFun (f52 55 (by decide)) 10))))
  have z119 : (σ70 16 1).toInt = (σ 16 1).toInt := (congrArg Int32.toInt (show σ70 16 1 = (σ 16 1) from ((congrFun (f72 16 (by decide)) 1).trans (congrFun (f52 16 (by decide)) 1))))
  have z120 : (σ70 55 12).toInt = (σ 55 12).toInt := (congrArg Int32.toInt (show σ70 55 12 = (σ 55 12) from ((f73 12 (by decide)).trans (congrFun (f52 55 (by decide)) 12))))
  have z121 : (σ70 16 2).toInt = (σ 16 2).toInt := (congrArg Int32.toInt (show σ70 16 2 = (σ 16 2) from ((congrFun (f72 16 (by decide)) 2).trans (congrFun (f52 16 (by decide)) 2))))
  have z122 : (σ70 55 13).toInt = (σ 55 13).toInt := (congrArg Int32.toInt (show σ70 55 13 = (σ 55 13) from ((f73 13 (by decide)).trans (congrFun (f52 55 (by decide)) 13))))
  have z123 : (σ70 38 0).toInt = (σ 38 0).toInt := (congrArg Int32.toInt (show σ70 38 0 = (σ 38 0) from ((congrFun (f72 38 (by decide)) 0).trans (congrFun (f52 38 (by decide)) 0))))
  have z124 : (σ70 55 32).toInt = (σ 55 32).toInt := (congrArg Int32.toInt (show σ70 55 32 = (σ 55 32) from ((f73 32 (by decide)).trans (congrFun (f52 55 (by decide)) 32))))
  have z125 : (σ70 38 1).toInt = (σ 38 1).toInt := (congrArg Int32.toInt (show σ70 38 1 = (σ 38 1) from ((congrFun (f72 38 (by decide)) 1).trans (congrFun (f52 38 (by decide)) 1))))
  have z126 : (σ70 55 55).toInt = (σ 55 55).toInt := (congrArg Int32.toInt (show σ70 55 55 = (σ 55 55) from ((f73 55 (by decide)).trans (congrFun (f52 55 (by decide)) 55))))
  have z127 : (σ70 47 0).toInt = (σ 47 0).toInt := (congrArg Int32.toInt (show σ70 47 0 = (σ 47 0) from ((congrFun (f72 47 (by decide)) 0).trans (congrFun (f52 47 (by decide)) 0))))
  have z128 : (σ70 55 47).toInt = (σ 55 47).toInt := (congrArg Int32.toInt (show σ70 55 47 = (σ 55 47) from ((f73 47 (by decide)).trans (congrFun (f52 55 (by decide)) 47))))
  have z129 : (σ70 55 30).toInt = (σ 55 30).toInt := (congrArg Int32.toInt (show σ70 55 30 = (σ 55 30) from ((f73 30 (by decide)).trans (congrFun (f52 55 (by decide)) 30))))
  have z130 : (σ70 55 31).toInt = (σ 55 31).toInt := (congrArg Int32.toInt (show σ70 55 31 = (σ 55 31) from ((f73 31 (by decide)).trans (congrFun (f52 55 (by decide)) 31))))
  have z131 : (σ70 2 1).toInt = (σ 2 1).toInt := (congrArg Int32.toInt (show σ70 2 1 = (σ 2 1) from ((congrFun (f72 2 (by decide)) 1).trans (congrFun (f52 2 (by decide)) 1))))
  have z132 : (σ70 55 9).toInt = (σ 55 9).toInt := (congrArg Int32.toInt (show σ70 55 9 = (σ 55 9) from ((f73 9 (by decide)).trans (congrFun (f52 55 (by decide)) 9))))
  have z133 : (σ70 26 6).toInt = (σ 26 6).toInt := (congrArg Int32.toInt (show σ70 26 6 = (σ 26 6) from ((congrFun (f72 26 (by decide)) 6).trans (congrFun (f52 26 (by decide)) 6))))
  have z135 : (σ70 18 0).toInt = (σ 18 0).toInt := (congrArg Int32.toInt (show σ70 18 0 = (σ 18 0) from ((congrFun (f72 18 (by decide)) 0).trans (congrFun (f52 18 (by decide)) 0))))
  have z136 : (σ70 22 0).toInt = (σ 22 0).toInt := (congrArg Int32.toInt (show σ70 22 0 = (σ 22 0) from ((congrFun (f72 22 (by decide)) 0).trans (congrFun (f52 22 (by decide)) 0))))
  exact ih x78 σ70 τ _ _ ls (by have h9 := tx78; omega) ⟨I79, I80, I81, I82, I83, I84, I85, I86, I87, I88, I89, I90, I91, I92, I93, I94, I95, I96, I97, I98, I99, I100, I101, I74, p75, p102, p103, p104, p105, p106, p76, p107, p108, (by omega), (by omega), (by omega), (by omega), (by omega), (by omega), (by omega), (by omega), (by omega), (by omega), (by omega), (by omega), (by omega), (by have h9 := tx78; omega), (show jNumP (σ70 3) (σ70 56) (σ70 6) (σ70 57) (σ70 7) (σ70 58) (σ70 8) (σ70 59) (σ70 55 6).toInt (σ70 55 4).toInt by rw [show σ70 3 = σ 3 from ((f72 3 (by decide)).trans (f52 3 (by decide))), show σ70 56 = σ 56 from ((f72 56 (by decide)).trans (f52 56 (by decide))), show σ70 6 = σ 6 from ((f72 6 (by decide)).trans (f52 6 (by decide))), show σ70 57 = σ 57 from ((f72 57 (by decide)).trans (f52 57 (by decide))), show σ70 7 = σ 7 from ((f72 7 (by decide)).trans (f52 7 (by decide))), show σ70 58 = σ 58 from ((f72 58 (by decide)).trans (f52 58 (by decide))), show σ70 8 = σ 8 from ((f72 8 (by decide)).trans (f52 8 (by decide))), show σ70 59 = σ 59 from ((f72 59 (by decide)).trans (f52 59 (by decide))), show (σ70 55 6).toInt = (σ 55 6).toInt from by omega, show (σ70 55 4).toInt = (σ 55 4).toInt from by omega]; exact hr0), (show jOvP (σ70 56) (σ70 57) (σ70 58) (σ70 59) (σ70 55 4).toInt by rw [show σ70 56 = σ 56 from ((f72 56 (by decide)).trans (f52 56 (by decide))), show σ70 57 = σ 57 from ((f72 57 (by decide)).trans (f52 57 (by decide))), show σ70 58 = σ 58 from ((f72 58 (by decide)).trans (f52 58 (by decide))), show σ70 59 = σ 59 from ((f72 59 (by decide)).trans (f52 59 (by decide))), show (σ70 55 4).toInt = (σ 55 4).toInt from by omega]; exact hr1), (show jTp (σ70 10) (σ70 63) (σ70 55 15).toInt by rw [show σ70 10 = σ 10 from ((f72 10 (by decide)).trans (f52 10 (by decide))), show σ70 63 = σ 63 from ((f72 63 (by decide)).trans (f52 63 (by decide)))]; exact hr2.le (by omega)), (show jSo (σ70 17) (σ70 62) (σ70 16 0).toInt by rw [show σ70 17 = σ 17 from ((f72 17 (by decide)).trans (f52 17 (by decide))), show σ70 62 = σ 62 from ((f72 62 (by decide)).trans (f52 62 (by decide))), show (σ70 16 0).toInt = (σ 16 0).toInt from by omega]; exact hr3), (show jShP (σ70 51) (σ70 52) (σ70 53) (σ70 86) (σ70 87) (σ70 55 32).toInt by rw [show σ70 51 = σ 51 from ((f72 51 (by decide)).trans (f52 51 (by decide))), show σ70 52 = σ 52 from ((f72 52 (by decide)).trans (f52 52 (by decide))), show σ70 53 = σ 53 from ((f72 53 (by decide)).trans (f52 53 (by decide))), show σ70 86 = σ 86 from ((f72 86 (by decide)).trans (f52 86 (by decide))), show σ70 87 = σ 87 from ((f72 87 (by decide)).trans (f52 87 (by decide)))]; exact (hr4.up (by omega) (by omega))), (show jEl (σ70 51) (σ70 52) (τ 54) (τ 88) by rw [show σ70 51 = σ 51 from ((f72 51 (by decide)).trans (f52 51 (by decide))), show σ70 52 = σ 52 from ((f72 52 (by decide)).trans (f52 52 (by decide)))]; exact hr5), (show jByP (σ70 51) (σ70 52) (τ 54) by rw [show σ70 51 = σ 51 from ((f72 51 (by decide)).trans (f52 51 (by decide))), show σ70 52 = σ 52 from ((f72 52 (by decide)).trans (f52 52 (by decide)))]; exact hr6), (show jBk (σ70 48) (σ70 80) (σ70 49) (σ70 81) (σ70 55 47).toInt by rw [show σ70 48 = σ 48 from ((f72 48 (by decide)).trans (f52 48 (by decide))), show σ70 49 = σ 49 from ((f72 49 (by decide)).trans (f52 49 (by decide))), show σ70 80 = σ 80 from ((f72 80 (by decide)).trans (f52 80 (by decide))), show σ70 81 = σ 81 from ((f72 81 (by decide)).trans (f52 81 (by decide))), show (σ70 55 47).toInt = (σ 55 47).toInt from by omega]; exact hr7), (show jKd (σ70 39) (σ70 70) (σ70 55 32).toInt by rw [show σ70 39 = σ 39 from ((f72 39 (by decide)).trans (f52 39 (by decide))), show σ70 70 = σ 70 from ((f72 70 (by decide)).trans (f52 70 (by decide))), show (σ70 55 32).toInt = (σ 55 32).toInt from by omega]; exact hr8), (show jTt (σ70 42) (σ70 85) (σ70 55 55).toInt by rw [show σ70 42 = σ 42 from ((f72 42 (by decide)).trans (f52 42 (by decide))), show σ70 85 = σ 85 from ((f72 85 (by decide)).trans (f52 85 (by decide))), show (σ70 55 55).toInt = (σ 55 55).toInt from by omega]; exact hr9), (fun k hk => by rw [show σ70 4 = σ 4 from ((f72 4 (by decide)).trans (f52 4 (by decide))), show σ70 5 = σ 5 from ((f72 5 (by decide)).trans (f52 5 (by decide))), show σ70 60 = σ 60 from ((f72 60 (by decide)).trans (f52 60 (by decide))), show σ70 61 = σ 61 from ((f72 61 (by decide)).trans (f52 61 (by decide)))]; exact hr10 k (by omega)), (fun nm => by rw [show σ70 19 = σ 19 from ((f72 19 (by decide)).trans (f52 19 (by decide))), show σ70 64 = σ 64 from ((f72 64 (by decide)).trans (f52 64 (by decide))), show σ70 65 = σ 65 from ((f72 65 (by decide)).trans (f52 65 (by decide))), show (σ70 18 0).toInt = (σ 18 0).toInt from by omega]; exact hr11 nm), (fun nm => by rw [show σ70 23 = σ 23 from ((f72 23 (by decide)).trans (f52 23 (by decide))), show σ70 64 = σ 64 from ((f72 64 (by decide)).trans (f52 64 (by decide))), show σ70 65 = σ 65 from ((f72 65 (by decide)).trans (f52 65 (by decide))), show (σ70 22 0).toInt = (σ 22 0).toInt from by omega]; exact hr12 nm)⟩ hP hS (lv_sub hl [0, 1, 2, 3] rfl)
set_option maxHeartbeats 4000000 in
set_option maxRecDepth 100000 in
theorem law_case_17 {p : Program} {e : Env} {s : State} {m : MethodId} {below : List Frame} {meth : Method} {c : Code} (l : Launch) {b L : Nat} {xs : Nat → Int32} {D : va_G} {cI cL : ClassId} {ad zz : Nat → Nat} (C0 : lw_At p s m meth c b L xs) (hJ : jD ad) (hA : ∀ q, jA ad q → s.heap.size ≤ q) (hK : jK D cI cL s) (hZ : jZ zz (fun q : Nat => s.heap.size ≤ q) s s.heap) {x0 : Int32} (hx0 : 0 ≤ x0.toInt) (hxL : x0.toInt + 6 ≤ (L : Int)) (hL : L ≤ 384) {σ : Nat → Nat → Int32} {τ : Nat → Nat → Int64} {H : Heap} {locs : List Loc} (hS : va_S (fun q : Nat => s.heap.size ≤ q) s.heap H locs) {ls : Array Slot} (hAll : jAll x0.toInt σ τ) (hP : jH D cI cL ad σ τ H) (hl : lv_has ls 4 [(3, .int x0), (2, .ref (ad 55)), (1, .ref (ad 0)), (0, .ref b)]) (ih : ∀ (x1 : Int32) (σ : Nat → Nat → Int32) (τ : Nat → Nat → Int64) (H : Heap) (locs : List Loc) (ls : Array Slot), x1.toInt = x0.toInt + 6 → jAll x1.toInt σ τ → jH D cI cL ad σ τ H → va_S (fun q : Nat => s.heap.size ≤ q) s.heap H locs → lv_has ls 4 [(3, .int x1), (2, .ref (ad 55)), (1, .ref (ad 0)), (0, .ref b)] → W p l e room_1 s m #[Value.ref b] below meth c H locs 90 348600 (lw_Z below #[Value.ref b] s) (F0 m 18 ls [])) : W p l e room_1 s m #[Value.ref b] below meth c H locs 90 348600 (lw_Z below #[Value.ref b] s) (F0 m 717 ls []) := by
  obtain ⟨hx, hb, hr, hml, hown, hts0, hX, hbl, hlocks, hgv⟩ := C0
  have hts : ∀ w ∈ wsL_law, w.before #[Value.ref b] s = true := fun w h => hts0 w (wsL_law_in w h)
  have hbA : ¬ (fun q : Nat => s.heap.size ≤ q) b := Nat.not_le.mpr hbl
  have hown : s.vm.findClass RL = some m.cls := hown
  obtain ⟨hI2, hI9, hI12, hI16, hI18, hI22, hI31, hI38, hI43, hI47, hI50, hI0, hI26, hI101, hI102, hI103, hI104, hI105, hI106, hI107, hI109, hI110, hI111, hI119, hs_jKept, hs_jBook, hs_jNd12, hs_jN67, hs_jBl, hs_jKb, hs_jTR, hs_jKh, hs_jKg, ht0, ht1, ht2, ht3, ht4, ht5, ht6, ht7, ht8, ht9, ht10, ht11, ht12, ht13, hr0, hr1, hr2, hr3, hr4, hr5, hr6, hr7, hr8, hr9, hr10, hr11, hr12⟩ := hAll
  have hL9 : (L : Int) ≤ 384 := by omega
  obtain ⟨i1, i2, i3, i4, i5, w6⟩ : (0 ≤ (σ 2 0).toInt ∧ (σ 2 0).toInt ≤ 4) ∧ (0 ≤ (σ 2 1).toInt ∧ (σ 2 1).toInt ≤ 3) ∧ (0 ≤ (σ 2 2).toInt) ∧ (0 ≤ (σ 2 3).toInt) ∧ ((σ 2 2).toInt + (σ 2 3).toInt ≤ 40) ∧ (∀ k : Nat, k < 40 → 0 ≤ (σ 6 k).toInt ∧ (σ 6 k).toInt ≤ 67) := id hI2
  obtain ⟨i7, w8, w9⟩ : (0 ≤ (σ 9 0).toInt ∧ (σ 9 0).toInt ≤ 80) ∧ (∀ k : Nat, k < 80 → 0 ≤ (σ 10 k).toInt ∧ (σ 10 k).toInt ≤ 255) ∧ (∀ k : Nat, k < 8 → 0 ≤ (σ 11 k).toInt ∧ (σ 11 k).toInt ≤ 3) := id hI9
  obtain ⟨i10, i11, i12, w13⟩ : (1 ≤ (σ 16 0).toInt ∧ (σ 16 0).toInt ≤ 8) ∧ (1 ≤ (σ 16 1).toInt ∧ (σ 16 1).toInt ≤ 12) ∧ (0 ≤ (σ 16 2).toInt ∧ (σ 16 2).toInt ≤ 999) ∧ (∀ k : Nat, k < 8 → 0 ≤ (σ 17 k).toInt ∧ (σ 17 k).toInt ≤ 3) := id hI16
  obtain ⟨i14, i15, w16⟩ : (0 ≤ (σ 38 0).toInt ∧ (σ 38 0).toInt ≤ 20) ∧ (0 ≤ (σ 38 1).toInt ∧ (σ 38 1).toInt ≤ 1000) ∧ (∀ k : Nat, k < 20 → 0 ≤ (σ 39 k).toInt ∧ (σ 39 k).toInt ≤ 6) := id hI38
  obtain ⟨i17, w18, w19⟩ : (0 ≤ (σ 47 0).toInt ∧ (σ 47 0).toInt ≤ 12) ∧ (∀ k : Nat, k < 12 → 0 ≤ (σ 48 k).toInt ∧ (σ 48 k).toInt ≤ 3) ∧ (∀ k : Nat, k < 12 → 0 ≤ (σ 49 k).toInt ∧ (σ 49 k).toInt ≤ 1) := id hI47
  have w20 : ∀ k : Nat, k < 6 → 0 ≤ (σ 52 k).toInt ∧ (σ 52 k).toInt ≤ 60 := hI50
  have i21 : 1 ≤ (σ 26 6).toInt ∧ (σ 26 6).toInt ≤ 8000 := hI26
  obtain ⟨i22, i23, i24, w25, w26, w27, w28⟩ : (0 ≤ (σ 55 5).toInt) ∧ ((σ 55 5).toInt ≤ (σ 55 4).toInt) ∧ ((σ 55 4).toInt ≤ 40) ∧ (∀ k : Nat, k < 68 → (-200) ≤ (σ 56 k).toInt ∧ (σ 56 k).toInt ≤ 500) ∧ (∀ k : Nat, k < 40 → 0 ≤ (σ 57 k).toInt ∧ (σ 57 k).toInt ≤ 67) ∧ (∀ k : Nat, k < 40 → (-200) ≤ (σ 58 k).toInt ∧ (σ 58 k).toInt ≤ 500) ∧ (∀ k : Nat, k < 40 → (-200) ≤ (σ 59 k).toInt ∧ (σ 59 k).toInt ≤ 500) := id hI101
  obtain ⟨i29, w30, w31⟩ : (0 ≤ (σ 55 6).toInt ∧ (σ 55 6).toInt ≤ 4) ∧ (∀ k : Nat, k < 4 → 0 ≤ (σ 60 k).toInt ∧ (σ 60 k).toInt ≤ 50) ∧ (∀ k : Nat, k < 4 → 0 ≤ (σ 61 k).toInt ∧ (σ 61 k).toInt ≤ 20) := id hI102
  have i32 : 0 ≤ (σ 55 9).toInt ∧ (σ 55 9).toInt ≤ 3 := hI103
  obtain ⟨i33, i34, i35, w36, w37⟩ : (1 ≤ (σ 55 10).toInt ∧ (σ 55 10).toInt ≤ 8) ∧ (1 ≤ (σ 55 12).toInt ∧ (σ 55 12).toInt ≤ 12) ∧ (0 ≤ (σ 55 13).toInt ∧ (σ 55 13).toInt ≤ 999) ∧ (∀ k : Nat, k < 8 → 0 ≤ (σ 62 k).toInt ∧ (σ 62 k).toInt ≤ 3) ∧ (∀ k : Nat, k < 8 → 0 ≤ (σ 67 k).toInt ∧ (σ 67 k).toInt ≤ 3) := id hI104
  obtain ⟨i38, w39⟩ : (0 ≤ (σ 55 15).toInt ∧ (σ 55 15).toInt ≤ 80) ∧ (∀ k : Nat, k < 2 → (-1) ≤ (σ 65 k).toInt ∧ (σ 65 k).toInt ≤ 80) := id hI105
  obtain ⟨i40, w41, w42, w43⟩ : (0 ≤ (σ 55 32).toInt ∧ (σ 55 32).toInt ≤ 20) ∧ (∀ k : Nat, k < 20 → 0 ≤ (σ 70 k).toInt ∧ (σ 70 k).toInt ≤ 6) ∧ (∀ k : Nat, k < 20 → 0 ≤ (σ 71 k).toInt ∧ (σ 71 k).toInt ≤ 8) ∧ (∀ k : Nat, k < 160 → 0 ≤ (σ 72 k).toInt ∧ (σ 72 k).toInt ≤ 3) := id hI106
  obtain ⟨i44, i45, w46⟩ : (0 ≤ (σ 55 47).toInt ∧ (σ 55 47).toInt ≤ 12) ∧ ((σ 55 47).toInt ≤ (σ 55 12).toInt) ∧ (∀ k : Nat, k < 12 → 0 ≤ (σ 80 k).toInt ∧ (σ 80 k).toInt ≤ 3) := id hI107
  have hs_jOk3 : jOk3 σ := hr0.ok hr1.1
  refine lv_aload_n hx hb dL_law_717 rfl (lv_at hl 2 rfl) ?_
  refine lv_aload_n hx hb dL_law_718 rfl (lv_at hl 3 rfl) ?_
  refine lv_iload_n hx hb dL_law_719 rfl (lv_at hl 0 rfl) ?_
  refine lv_iconst (v := 1) hx hb dL_law_720 (by decide) ?_
  have g47 := jrg (rfl : x0.toInt = x0.toInt)
  refine lv_iadd hx hb dL_law_721 ?_
  refine lv_topi (fun x48 ex48 => ?_)
  have tx48 : x48.toInt = x0.toInt + 1 := (jadd ex48 rfl jz_1 (by omega) (by omega)).trans (by omega)
  refine va_sld hx hb hX hbl hbA hS (jin tx48 (by omega) (by omega)) dL_law_722 ?_
  have g49 := jrg (rfl : (xs x48.toNatClampNeg).toInt = (xs x48.toNatClampNeg).toInt)
  refine jcallV (As := [.int (xs x48.toNatClampNeg)]) (rest := []) ⟨hx, hb, hml, hown, hts⟩ hK hP hA hS hZ (c_X11_theirs l D cI cL ad zz hJ σ τ (xs x48.toNatClampNeg) ((xs x48.toNatClampNeg).toInt) rfl hI2 hI16 hI22 hI31 hI0 hI26 hs_jN67 hs_jBl hs_jKb hs_jKh hs_jKg) cw_RL_85 (jc_0 cI cL ad σ τ) rfl ⟨Nat.le_of_ble_eq_true rfl, Nat.le_of_ble_eq_true rfl⟩ rfl rfl rfl hl.1 rfl (Nat.le_of_ble_eq_true rfl) dL_law_723 ⟨Nat.le_of_ble_eq_true rfl, Nat.le_of_ble_eq_true rfl⟩ (fun r51 σ50 τ50 H locs h50 hP hS => ?_)
  obtain ⟨rfl, f52, f53, I54, I55, p56, p57, p58, p59, p60, h50⟩ := h50
  refine lv_pop hx hb dL_law_726 rfl ?_
  refine lv_aload_n hx hb dL_law_727 rfl (lv_at hl 1 rfl) ?_
  refine lv_aload_n hx hb dL_law_728 rfl (lv_at hl 3 rfl) ?_
  refine lv_iload_n hx hb dL_law_729 rfl (lv_at hl 0 rfl) ?_
  refine lv_iconst (v := 1) hx hb dL_law_730 (by decide) ?_
  refine lv_iadd hx hb dL_law_731 ?_
  refine jtopr ex48.symm ?_
  refine va_sld hx hb hX hbl hbA hS (jin tx48 (by omega) (by omega)) dL_law_732 ?_
  have I62 : jI101 σ50 := jI101_fr (congrFun (f52 55 (by decide)) 4) (congrFun (f52 55 (by decide)) 5) (f52 56 (by decide)) (f52 57 (by decide)) (f52 58 (by decide)) (f52 59 (by decide)) hI101
  have I63 : jI102 σ50 := jI102_fr (congrFun (f52 55 (by decide)) 6) (f52 60 (by decide)) (f52 61 (by decide)) hI102
  have I64 : jI103 σ50 := jI103_fr (congrFun (f52 55 (by decide)) 9) hI103
  have I65 : jI104 σ50 := jI104_fr (congrFun (f52 55 (by decide)) 10) (congrFun (f52 55 (by decide)) 12) (congrFun (f52 55 (by decide)) 13) (f52 62 (by decide)) (f52 67 (by decide)) hI104
  have I66 : jI105 σ50 := jI105_fr (congrFun (f52 55 (by decide)) 15) (f52 65 (by decide)) hI105
  have I67 : jI106 σ50 := jI106_fr (congrFun (f52 55 (by decide)) 32) (f52 70 (by decide)) (f52 71 (by decide)) (f52 72 (by decide)) hI106
  have I68 : jI119 σ50 := jI119_fr (f52 68 (by decide)) hI119
  have I69 : jI111 σ50 := jI111_fr (f52 79 (by decide)) hI111
  have p70 : jKept σ50 := jKept.fr (f52 75 (by decide)) (f52 76 (by decide)) (f52 77 (by decide)) hs_jKept
  have p71 : jTR σ50 := jTR.fr (f52 64 (by decide)) (f52 65 (by decide)) hs_jTR
  refine jcallV (As := [.int (xs x48.toNatClampNeg)]) (rest := []) ⟨hx, hb, hml, hown, hts⟩ hK hP hA hS hZ (c_X12_theirs l D cI cL ad zz hJ σ50 τ (xs x48.toNatClampNeg) ((xs x48.toNatClampNeg).toInt) rfl I62 I63 I64 I65 I66 I67 I68 I69 p70 p71) cw_RL_88 (jc_55 cI cL ad σ50 τ) rfl ⟨Nat.le_of_ble_eq_true rfl, Nat.le_of_ble_eq_true rfl⟩ rfl rfl rfl hl.1 rfl (Nat.le_of_ble_eq_true rfl) dL_law_733 ⟨Nat.le_of_ble_eq_true rfl, Nat.le_of_ble_eq_true rfl⟩ (fun r73 σ72 τ72 H locs h72 hP hS => ?_)
  obtain ⟨rfl, f74, f75, I76, I77, I78, p79, p80, w81, h72⟩ := h72
  obtain ⟨i83, i84, i85, w86, w87⟩ : (1 ≤ (σ72 55 10).toInt ∧ (σ72 55 10).toInt ≤ 8) ∧ (1 ≤ (σ72 55 12).toInt ∧ (σ72 55 12).toInt ≤ 12) ∧ (0 ≤ (σ72 55 13).toInt ∧ (σ72 55 13).toInt ≤ 999) ∧ (∀ k : Nat, k < 8 → 0 ≤ (σ72 62 k).toInt ∧ (σ72 62 k).toInt ≤ 3) ∧ (∀ k : Nat, k < 8 → 0 ≤ (σ72 67 k).toInt ∧ (σ72 67 k).toInt ≤ 3) := id I76
  have z88 : (σ72 55 10).toInt = (σ 55 10).toInt := (congrArg Int32.toInt (show σ72 55 10 = (σ 55 10) from ((f75 10 (by decide)).trans (congrFun (f52 55 (by decide)) 10))))
  have z89 : (σ72 55 12).toInt = (σ 55 12).toInt := (congrArg Int32.toInt (show σ72 55 12 = (σ 55 12) from ((f75 12 (by decide)).trans (congrFun (f52 55 (by decide)) 12))))
  have z90 : (σ72 55 13).toInt = (σ 55 13).toInt := (congrArg Int32.toInt (show σ72 55 13 = (σ 55 13) from ((f75 13 (by decide)).trans (congrFun (f52 55 (by decide)) 13))))
  refine lv_pop hx hb dL_law_736 rfl ?_
  refine lv_goto (tgt := 1357) hx hb dL_law_737 (by decide) ?_
  obtain ⟨x91, ex91⟩ : ∃ y : Int32, y = x0 + 6 := ⟨_, rfl⟩
  have tx91 : x91.toInt = x0.toInt + 6 := (jadd ex91 rfl jz_6 (by omega) (by omega)).trans (by omega)
  refine lv_iinc (v := x91) (lv' := [(3, .int x91), (2, .ref (ad 55)), (1, .ref (ad 0)), (0, .ref b)]) hx hb dL_law_1357 hl (k := 0) rfl (by rw [ex91]; rfl) (by decide) rfl (fun ls hl => ?_)
  refine lv_goto (tgt := 18) hx hb dL_law_1360 (by decide) ?_
  have I92 : jI2 σ72 := jI2_fr ((congrFun (f74 2 (by decide)) 0).trans (congrFun (f52 2 (by decide)) 0)) ((congrFun (f74 2 (by decide)) 1).trans (congrFun (f52 2 (by decide)) 1)) ((congrFun (f74 2 (by decide)) 2).trans (congrFun (f52 2 (by decide)) 2)) ((congrFun (f74 2 (by decide)) 3).trans (congrFun (f52 2 (by decide)) 3)) ((f74 6 (by decide)).trans (f52 6 (by decide))) hI2
  have I93 : jI9 σ72 := jI9_fr ((congrFun (f74 9 (by decide)) 0).trans (congrFun (f52 9 (by decide)) 0)) ((f74 10 (by decide)).trans (f52 10 (by decide))) ((f74 11 (by decide)).trans (f52 11 (by decide))) hI9
  have I94 : jI12 σ72 := jI12_fr ((congrFun (f74 12 (by decide)) 0).trans (congrFun (f52 12 (by decide)) 0)) ((f74 13 (by decide)).trans (f52 13 (by decide))) hI12
  have I95 : jI16 σ72 := jI16_fr ((congrFun (f74 16 (by decide)) 0).trans (congrFun (f52 16 (by decide)) 0)) ((congrFun (f74 16 (by decide)) 1).trans (congrFun (f52 16 (by decide)) 1)) ((congrFun (f74 16 (by decide)) 2).trans (congrFun (f52 16 (by decide)) 2)) ((f74 17 (by decide)).trans (f52 17 (by decide))) hI16
  have I96 : jI18 σ72 := jI18_fr ((congrFun (f74 18 (by decide)) 0).trans (congrFun (f52 18 (by decide)) 0)) ((f74 19 (by decide)).trans (f52 19 (by decide))) hI18
  have I97 : jI22 σ72 := jI22_fr ((congrFun (f74 22 (by decide)) 0).trans (congrFun (f52 22 (by decide)) 0)) ((f74 23 (by decide)).trans (f52 23 (by decide))) hI22
  have I98 : jI31 σ72 := jI31_fr (congrFun (f74 31 (by decide)) 8) (congrFun (f74 31 (by decide)) 10) (congrFun (f74 31 (by decide)) 11) (f74 33 (by decide)) (f74 35 (by decide)) (f74 36 (by decide)) I54
  have I99 : jI38 σ72 := jI38_fr ((congrFun (f74 38 (by decide)) 0).trans (congrFun (f52 38 (by decide)) 0)) ((congrFun (f74 38 (by decide)) 1).trans (congrFun (f52 38 (by decide)) 1)) ((f74 39 (by decide)).trans (f52 39 (by decide))) hI38
  have I100 : jI43 σ72 := jI43_fr ((congrFun (f74 43 (by decide)) 8).trans (congrFun (f52 43 (by decide)) 8)) hI43
  have I101 : jI47 σ72 := jI47_fr ((congrFun (f74 47 (by decide)) 0).trans (congrFun (f52 47 (by decide)) 0)) ((f74 48 (by decide)).trans (f52 48 (by decide))) ((f74 49 (by decide)).trans (f52 49 (by decide))) hI47
  have I102 : jI50 σ72 := jI50_fr ((f74 52 (by decide)).trans (f52 52 (by decide))) hI50
  have I103 : jI0 σ72 := jI0_fr (f74 1 (by decide)) I55
  have I104 : jI26 σ72 := jI26_fr ((congrFun (f74 26 (by decide)) 6).trans (congrFun (f52 26 (by decide)) 6)) hI26
  have I105 : jI101 σ72 := jI101_fr (f75 4 (by decide)) (f75 5 (by decide)) (f74 56 (by decide)) (f74 57 (by decide)) (f74 58 (by decide)) (f74 59 (by decide)) I62
  have I106 : jI102 σ72 := jI102_fr (f75 6 (by decide)) (f74 60 (by decide)) (f74 61 (by decide)) I63
  have I107 : jI103 σ72 := jI103_fr (f75 9 (by decide)) I64
  have I108 : jI105 σ72 := jI105_fr (f75 15 (by decide)) (f74 65 (by decide)) I66
  have I109 : jI106 σ72 := jI106_fr (f75 32 (by decide)) (f74 70 (by decide)) (f74 71 (by decide)) (f74 72 (by decide)) I67
  have I110 : jI107 σ72 := jI107_fr ((f75 12 (by decide)).trans (congrFun (f52 55 (by decide)) 12)) ((f75 47 (by decide)).trans (congrFun (f52 55 (by decide)) 47)) ((f74 80 (by decide)).trans (f52 80 (by decide))) hI107
  have I111 : jI109 σ72 := jI109_fr ((f75 50 (by decide)).trans (congrFun (f52 55 (by decide)) 50)) hI109
  have I112 : jI110 σ72 := jI110_fr ((f74 86 (by decide)).trans (f52 86 (by decide))) ((f74 87 (by decide)).trans (f52 87 (by decide))) hI110
  have p113 : jBook σ72 := jBook.fr ((f75 47 (by decide)).trans (congrFun (f52 55 (by decide)) 47)) ((f75 10 (by decide)).trans (congrFun (f52 55 (by decide)) 10)) ((f74 81 (by decide)).trans (f52 81 (by decide))) hs_jBook
  have p114 : jNd12 σ72 := jNd12.fr ((congrFun (f74 12 (by decide)) 0).trans (congrFun (f52 12 (by decide)) 0)) ((congrFun (f74 12 (by decide)) 1).trans (congrFun (f52 12 (by decide)) 1)) ((f74 13 (by decide)).trans (f52 13 (by decide))) hs_jNd12
  have p115 : jN67 σ72 := jN67.fr (f74 24 (by decide)) p56
  have p116 : jBl σ72 := jBl.fr (congrFun (f74 22 (by decide)) 0) (congrFun (f74 22 (by decide)) 1) (f74 23 (by decide)) (congrFun (f74 26 (by decide)) 6) (congrFun (f74 26 (by decide)) 7) (f74 29 (by decide)) (f74 30 (by decide)) p57
  have p117 : jKb σ72 := jKb.fr (congrFun (f74 31 (by decide)) 8) (congrFun (f74 31 (by decide)) 11) (f74 32 (by decide)) p58
  have p118 : jKh σ72 := jKh.fr (congrFun (f74 31 (by decide)) 8) (f74 32 (by decide)) (f74 36 (by decide)) (f74 37 (by decide)) p59
  have p119 : jKg σ72 := jKg.fr (congrFun (f74 31 (by decide)) 8) (congrFun (f74 31 (by decide)) 9) (congrFun (f74 31 (by decide)) 11) (congrFun (f74 31 (by decide)) 12) (f74 32 (by decide)) (f74 33 (by decide)) p60
  have z120 : (σ72 2 0).toInt = (σ 2 0).toInt := (congrArg Int32.toInt (show σ72 2 0 = (σ 2 0) from ((congrFun (f74 2 (by decide)) 0).trans (congrFun (f52 2 (by decide)) 0))))
  have z121 : (σ72 55 6).toInt = (σ 55 6).toInt := (congrArg Int32.toInt (show σ72 55 6 = (σ 55 6) from ((f75 6 (by decide)).trans (congrFun (f52 55 (by decide)) 6))))
  have z122 : (σ72 2 2).toInt = (σ 2 2).toInt := (congrArg Int32.toInt (show σ72 2 2 = (σ 2 2) from ((congrFun (f74 2 (by decide)) 2).trans (congrFun (f52 2 (by decide)) 2))))
  have z123 : (σ72 55 5).toInt = (σ 55 5).toInt := (congrArg Int32.toInt (show σ72 55 5 = (σ 55 5) from ((f75 5 (by decide)).trans (congrFun (f52 55 (by decide)) 5))))
  have z124 : (σ72 2 3).toInt = (σ 2 3).toInt := (congrArg Int32.toInt (show σ72 2 3 = (σ 2 3) from ((congrFun (f74 2 (by decide)) 3).trans (congrFun (f52 2 (by decide)) 3))))
  have z125 : (σ72 55 4).toInt = (σ 55 4).toInt := (congrArg Int32.toInt (show σ72 55 4 = (σ 55 4) from ((f75 4 (by decide)).trans (congrFun (f52 55 (by decide)) 4))))
  have z126 : (σ72 9 0).toInt = (σ 9 0).toInt := (congrArg Int32.toInt (show σ72 9 0 = (σ 9 0) from ((congrFun (f74 9 (by decide)) 0).trans (congrFun (f52 9 (by decide)) 0))))
  have z127 : (σ72 55 15).toInt = (σ 55 15).toInt := (congrArg Int32.toInt (show σ72 55 15 = (σ 55 15) from ((f75 15 (by decide)).trans (congrFun (f52 55 (by decide)) 15))))
  have z128 : (σ72 16 0).toInt = (σ 16 0).toInt := (congrArg Int32.toInt (show σ72 16 0 = (σ 16 0) from ((congrFun (f74 16 (by decide)) 0).trans (congrFun (f52 16 (by decide)) 0))))
  have z129 : (σ72 16 1).toInt = (σ 16 1).toInt := (congrArg Int32.toInt (show σ72 16 1 = (σ 16 1) from ((congrFun (f74 16 (by decide)) 1).trans (congrFun (f52 16 (by decide)) 1))))
  have z130 : (σ72 16 2).toInt = (σ 16 2).toInt := (congrArg Int32.toInt (show σ72 16 2 = (σ 16 2) from ((congrFun (f74 16 (by decide)) 2).trans (congrFun (f52 16 (by decide)) 2))))
  have z131 : (σ72 38 0).toInt = (σ 38 0).toInt := (congrArg Int32.toInt (show σ72 38 0 = (σ 38 0) from ((congrFun (f74 38 (by decide)) 0).trans (congrFun (f52 38 (by decide)) 0))))
  have z132 : (σ72 55 32).toInt = (σ 55 32).toInt := (congrArg Int32.toInt (show σ72 55 32 = (σ 55 32) from ((f75 32 (by decide)).trans (congrFun (f52 55 (by decide)) 32))))
  have z133 : (σ72 38 1).toInt = (σ 38 1).toInt := (congrArg Int32.toInt (show σ72 38 1 = (σ 38 1) from ((congrFun (f74 38 (by decide)) 1).trans (congrFun (f52 38 (by decide)) 1))))
  have z134 : (σ72 55 55).toInt = (σ 55 55).toInt := (congrArg Int32.toInt (show σ72 55 55 = (σ 55 55) from ((f75 55 (by decide)).trans (congrFun (f52 55 (by decide)) 55))))
  have z135 : (σ72 47 0).toInt = (σ 47 0).toInt := (congrArg Int32.toInt (show σ72 47 0 = (σ 47 0) from ((congrFun (f74 47 (by decide)) 0).trans (congrFun (f52 47 (by decide)) 0))))
  have z136 : (σ72 55 47).toInt = (σ 55 47).toInt := (congrArg Int32.toInt (show σ72 55 47 = (σ 55 47) from ((f75 47 (by decide)).trans (congrFun (f52 55 (by decide)) 47))))
  have z137 : (σ72 55 30).toInt = (σ 55 30).toInt := (congrArg Int32.toInt (show σ72 55 30 = (σ 55 30) from ((f75 30 (by decide)).trans (congrFun (f52 55 (by decide)) 30))))
  have z138 : (σ72 55 31).toInt = (σ 55 31).toInt := (congrArg Int32.toInt (show σ72 55 31 = (σ 55 31) from ((f75 31 (by decide)).trans (congrFun (f52 55 (by decide)) 31))))
  have z139 : (σ72 2 1).toInt = (σ 2 1).toInt := (congrArg Int32.toInt (show σ72 2 1 = (σ 2 1) from ((congrFun (f74 2 (by decide)) 1).trans (congrFun (f52 2 (by decide)) 1))))
  have z140 : (σ72 55 9).toInt = (σ 55 9).toInt := (congrArg Int32.toInt (show σ72 55 9 = (σ 55 9) from ((f75 9 (by decide)).trans (congrFun (f52 55 (by decide)) 9))))
  have z141 : (σ72 26 6).toInt = (σ 26 6).toInt := (congrArg Int32.toInt (show σ72 26 6 = (σ 26 6) from ((congrFun (f74 26 (by decide)) 6).trans (congrFun (f52 26 (by decide)) 6))))
  have z142 : (σ50 55 10).toInt = (σ 55 10).toInt := (congrArg Int32.toInt (show σ50 55 10 = (σ 55 10) from (congrFun (f52 55 (by decide)) 10)))
  rw [show σ50 62 = σ 62 from (f52 62 (by decide))] at w81
  have z144 : (σ72 18 0).toInt = (σ 18 0).toInt := (congrArg Int32.toInt (show σ72 18 0 = (σ 18 0) from ((congrFun (f74 18 (by decide)) 0).trans (congrFun (f52 18 (by decide)) 0))))
  have z145 : (σ72 22 0).toInt = (σ 22 0).toInt := (congrArg Int32.toInt (show σ72 22 0 = (σ 22 0) from ((congrFun (f74 22 (by decide)) 0).trans (congrFun (f52 22 (by decide)) 0))))
  exact ih x91 σ72 τ _ _ ls (by have h9 := tx91; omega) ⟨I92, I93, I94, I95, I96, I97, I98, I99, I100, I101, I102, I103, I104, I105, I106, I107, I76, I108, I109, I110, I111, I112, I77, I78, p79, p113, p114, p115, p116, p117, p80, p118, p119, (by omega), (by omega), (by omega), (by omega), (by omega), (by omega), (by omega), (by omega), (by omega), (by omega), (by omega), (by omega), (by omega), (by have h9 := tx91; omega), (show jNumP (σ72 3) (σ72 56) (σ72 6) (σ72 57) (σ72 7) (σ72 58) (σ72 8) (σ72 59) (σ72 55 6).toInt (σ72 55 4).toInt by rw [show σ72 3 = σ 3 from ((f74 3 (by decide)).trans (f52 3 (by decide))), show σ72 56 = σ 56 from ((f74 56 (by decide)).trans (f52 56 (by decide))), show σ72 6 = σ 6 from ((f74 6 (by decide)).trans (f52 6 (by decide))), show σ72 57 = σ 57 from ((f74 57 (by decide)).trans (f52 57 (by decide))), show σ72 7 = σ 7 from ((f74 7 (by decide)).trans (f52 7 (by decide))), show σ72 58 = σ 58 from ((f74 58 (by decide)).trans (f52 58 (by decide))), show σ72 8 = σ 8 from ((f74 8 (by decide)).trans (f52 8 (by decide))), show σ72 59 = σ 59 from ((f74 59 (by decide)).trans (f52 59 (by decide))), show (σ72 55 6).toInt = (σ 55 6).toInt from by omega, show (σ72 55 4).toInt = (σ 55 4).toInt from by omega]; exact hr0), (show jOvP (σ72 56) (σ72 57) (σ72 58) (σ72 59) (σ72 55 4).toInt by rw [show σ72 56 = σ 56 from ((f74 56 (by decide)).trans (f52 56 (by decide))), show σ72 57 = σ 57 from ((f74 57 (by decide)).trans (f52 57 (by decide))), show σ72 58 = σ 58 from ((f74 58 (by decide)).trans (f52 58 (by decide))), show σ72 59 = σ 59 from ((f74 59 (by decide)).trans (f52 59 (by decide))), show (σ72 55 4).toInt = (σ 55 4).toInt from by omega]; exact hr1), (show jTp (σ72 10) (σ72 63) (σ72 55 15).toInt by rw [show σ72 10 = σ 10 from ((f74 10 (by decide)).trans (f52 10 (by decide))), show σ72 63 = σ 63 from ((f74 63 (by decide)).trans (f52 63 (by decide)))]; exact hr2.le (by omega)), (show jSo (σ72 17) (σ72 62) (σ72 16 0).toInt by rw [show σ72 17 = σ 17 from ((f74 17 (by decide)).trans (f52 17 (by decide))), show (σ72 16 0).toInt = (σ 16 0).toInt from by omega]; exact hr3.thru w81 (by omega)), (show jShP (σ72 51) (σ72 52) (σ72 53) (σ72 86) (σ72 87) (σ72 55 32).toInt by rw [show σ72 51 = σ 51 from ((f74 51 (by decide)).trans (f52 51 (by decide))), show σ72 52 = σ 52 from ((f74 52 (by decide)).trans (f52 52 (by decide))), show σ72 53 = σ 53 from ((f74 53 (by decide)).trans (f52 53 (by decide))), show σ72 86 = σ 86 from ((f74 86 (by decide)).trans (f52 86 (by decide))), show σ72 87 = σ 87 from ((f74 87 (by decide)).trans (f52 87 (by decide)))]; exact (hr4.up (by omega) (by omega))), (show jEl (σ72 51) (σ72 52) (τ 54) (τ 88) by rw [show σ72 51 = σ 51 from ((f74 51 (by decide)).trans (f52 51 (by decide))), show σ72 52 = σ 52 from ((f74 52 (by decide)).trans (f52 52 (by decide)))]; exact hr5), (show jByP (σ72 51) (σ72 52) (τ 54) by rw [show σ72 51 = σ 51 from ((f74 51 (by decide)).trans (f52 51 (by decide))), show σ72 52 = σ 52 from ((f74 52 (by decide)).trans (f52 52 (by decide)))]; exact hr6), (show jBk (σ72 48) (σ72 80) (σ72 49) (σ72 81) (σ72 55 47).toInt by rw [show σ72 48 = σ 48 from ((f74 48 (by decide)).trans (f52 48 (by decide))), show σ72 49 = σ 49 from ((f74 49 (by decide)).trans (f52 49 (by decide))), show σ72 80 = σ 80 from ((f74 80 (by decide)).trans (f52 80 (by decide))), show σ72 81 = σ 81 from ((f74 81 (by decide)).trans (f52 81 (by decide))), show (σ72 55 47).toInt = (σ 55 47).toInt from by omega]; exact hr7), (show jKd (σ72 39) (σ72 70) (σ72 55 32).toInt by rw [show σ72 39 = σ 39 from ((f74 39 (by decide)).trans (f52 39 (by decide))), show σ72 70 = σ 70 from ((f74 70 (by decide)).trans (f52 70 (by decide))), show (σ72 55 32).toInt = (σ 55 32).toInt from by omega]; exact hr8), (show jTt (σ72 42) (σ72 85) (σ72 55 55).toInt by rw [show σ72 42 = σ 42 from ((f74 42 (by decide)).trans (f52 42 (by decide))), show σ72 85 = σ 85 from ((f74 85 (by decide)).trans (f52 85 (by decide))), show (σ72 55 55).toInt = (σ 55 55).toInt from by omega]; exact hr9), (fun k hk => by rw [show σ72 4 = σ 4 from ((f74 4 (by decide)).trans (f52 4 (by decide))), show σ72 5 = σ 5 from ((f74 5 (by decide)).trans (f52 5 (by decide))), show σ72 60 = σ 60 from ((f74 60 (by decide)).trans (f52 60 (by decide))), show σ72 61 = σ 61 from ((f74 61 (by decide)).trans (f52 61 (by decide)))]; exact hr10 k (by omega)), (fun nm => by rw [show σ72 19 = σ 19 from ((f74 19 (by decide)).trans (f52 19 (by decide))), show σ72 64 = σ 64 from ((f74 64 (by decide)).trans (f52 64 (by decide))), show σ72 65 = σ 65 from ((f74 65 (by decide)).trans (f52 65 (by decide))), show (σ72 18 0).toInt = (σ 18 0).toInt from by omega]; exact hr11 nm), (fun nm => by rw [show σ72 23 = σ 23 from ((f74 23 (by decide)).trans (f52 23 (by decide))), show σ72 64 = σ 64 from ((f74 64 (by decide)).trans (f52 64 (by decide))), show σ72 65 = σ 65 from ((f74 65 (by decide)).trans (f52 65 (by decide))), show (σ72 22 0).toInt = (σ 22 0).toInt from by omega]; exact hr12 nm)⟩ hP hS (lv_sub hl [0, 1, 2, 3] rfl)
set_option maxHeartbeats 4000000 in
set_option maxRecDepth 100000 in
theorem law_case_18 {p : Program} {e : Env} {s : State} {m : MethodId} {below : List Frame} {meth : Method} {c : Code} (l : Launch) {b L : Nat} {xs : Nat → Int32} {D : va_G} {cI cL : ClassId} {ad zz : Nat → Nat} (C0 : lw_At p s m meth c b L xs) (hJ : jD ad) (hA : ∀ q, jA ad q → s.heap.size ≤ q) (hK : jK D cI cL s) (hZ : jZ zz (fun q : Nat => s.heap.size ≤ q) s s.heap) {x0 : Int32} (hx0 : 0 ≤ x0.toInt) (hxL : x0.toInt + 6 ≤ (L : Int)) (hL : L ≤ 384) {σ : Nat → Nat → Int32} {τ : Nat → Nat → Int64} {H : Heap} {locs : List Loc} (hS : va_S (fun q : Nat => s.heap.size ≤ q) s.heap H locs) {ls : Array Slot} (hAll : jAll x0.toInt σ τ) (hP : jH D cI cL ad σ τ H) (hl : lv_has ls 4 [(3, .int x0), (2, .ref (ad 55)), (1, .ref (ad 0)), (0, .ref b)]) (ih : ∀ (x1 : Int32) (σ : Nat → Nat → Int32) (τ : Nat → Nat → Int64) (H : Heap) (locs : List Loc) (ls : Array Slot), x1.toInt = x0.toInt + 6 → jAll x1.toInt σ τ → jH D cI cL ad σ τ H → va_S (fun q : Nat => s.heap.size ≤ q) s.heap H locs → lv_has ls 4 [(3, .int x1), (2, .ref (ad 55)), (1, .ref (ad 0)), (0, .ref b)] → W p l e room_1 s m #[Value.ref b] below meth c H locs 90 348600 (lw_Z below #[Value.ref b] s) (F0 m 18 ls [])) : W p l e room_1 s m #[Value.ref b] below meth c H locs 90 348600 (lw_Z below #[Value.ref b] s) (F0 m 740 ls []) := by
  obtain ⟨hx, hb, hr, hml, hown, hts0, hX, hbl, hlocks, hgv⟩ := C0
  have hts : ∀ w ∈ wsL_law, w.before #[Value.ref b] s = true := fun w h => hts0 w (wsL_law_in w h)
  have hbA : ¬ (fun q : Nat => s.heap.size ≤ q) b := Nat.not_le.mpr hbl
  have hown : s.vm.findClass RL = some m.cls := hown
  obtain ⟨hI2, hI9, hI12, hI16, hI18, hI22, hI31, hI38, hI43, hI47, hI50, hI0, hI26, hI101, hI102, hI103, hI104, hI105, hI106, hI107, hI109, hI110, hI111, hI119, hs_jKept, hs_jBook, hs_jNd12, hs_jN67, hs_jBl, hs_jKb, hs_jTR, hs_jKh, hs_jKg, ht0, ht1, ht2, ht3, ht4, ht5, ht6, ht7, ht8, ht9, ht10, ht11, ht12, ht13, hr0, hr1, hr2, hr3, hr4, hr5, hr6, hr7, hr8, hr9, hr10, hr11, hr12⟩ := hAll
  have hL9 : (L : Int) ≤ 384 := by omega
  obtain ⟨i1, i2, i3, i4, i5, w6⟩ : (0 ≤ (σ 2 0).toInt ∧ (σ 2 0).toInt ≤ 4) ∧ (0 ≤ (σ 2 1).toInt ∧ (σ 2 1).toInt ≤ 3) ∧ (0 ≤ (σ 2 2).toInt) ∧ (0 ≤ (σ 2 3).toInt) ∧ ((σ 2 2).toInt + (σ 2 3).toInt ≤ 40) ∧ (∀ k : Nat, k < 40 → 0 ≤ (σ 6 k).toInt ∧ (σ 6 k).toInt ≤ 67) := id hI2
  obtain ⟨i7, w8, w9⟩ : (0 ≤ (σ 9 0).toInt ∧ (σ 9 0).toInt ≤ 80) ∧ (∀ k : Nat, k < 80 → 0 ≤ (σ 10 k).toInt ∧ (σ 10 k).toInt ≤ 255) ∧ (∀ k : Nat, k < 8 → 0 ≤ (σ 11 k).toInt ∧ (σ 11 k).toInt ≤ 3) := id hI9
  obtain ⟨i10, i11, i12, w13⟩ : (1 ≤ (σ 16 0).toInt ∧ (σ 16 0).toInt ≤ 8) ∧ (1 ≤ (σ 16 1).toInt ∧ (σ 16 1).toInt ≤ 12) ∧ (0 ≤ (σ 16 2).toInt ∧ (σ 16 2).toInt ≤ 999) ∧ (∀ k : Nat, k < 8 → 0 ≤ (σ 17 k).toInt ∧ (σ 17 k).toInt ≤ 3) := id hI16
  obtain ⟨i14, i15, w16⟩ : (0 ≤ (σ 38 0).toInt ∧ (σ 38 0).toInt ≤ 20) ∧ (0 ≤ (σ 38 1).toInt ∧ (σ 38 1).toInt ≤ 1000) ∧ (∀ k : Nat, k < 20 → 0 ≤ (σ 39 k).toInt ∧ (σ 39 k).toInt ≤ 6) := id hI38
  obtain ⟨i17, w18, w19⟩ : (0 ≤ (σ 47 0).toInt ∧ (σ 47 0).toInt ≤ 12) ∧ (∀ k : Nat, k < 12 → 0 ≤ (σ 48 k).toInt ∧ (σ 48 k).toInt ≤ 3) ∧ (∀ k : Nat, k < 12 → 0 ≤ (σ 49 k).toInt ∧ (σ 49 k).toInt ≤ 1) := id hI47
  have w20 : ∀ k : Nat, k < 6 → 0 ≤ (σ 52 k).toInt ∧ (σ 52 k).toInt ≤ 60 := hI50
  have i21 : 1 ≤ (σ 26 6).toInt ∧ (σ 26 6).toInt ≤ 8000 := hI26
  obtain ⟨i22, i23, i24, w25, w26, w27, w28⟩ : (0 ≤ (σ 55 5).toInt) ∧ ((σ 55 5).toInt ≤ (σ 55 4).toInt) ∧ ((σ 55 4).toInt ≤ 40) ∧ (∀ k : Nat, k < 68 → (-200) ≤ (σ 56 k).toInt ∧ (σ 56 k).toInt ≤ 500) ∧ (∀ k : Nat, k < 40 → 0 ≤ (σ 57 k).toInt ∧ (σ 57 k).toInt ≤ 67) ∧ (∀ k : Nat, k < 40 → (-200) ≤ (σ 58 k).toInt ∧ (σ 58 k).toInt ≤ 500) ∧ (∀ k : Nat, k < 40 → (-200) ≤ (σ 59 k).toInt ∧ (σ 59 k).toInt ≤ 500) := id hI101
  obtain ⟨i29, w30, w31⟩ : (0 ≤ (σ 55 6).toInt ∧ (σ 55 6).toInt ≤ 4) ∧ (∀ k : Nat, k < 4 → 0 ≤ (σ 60 k).toInt ∧ (σ 60 k).toInt ≤ 50) ∧ (∀ k : Nat, k < 4 → 0 ≤ (σ 61 k).toInt ∧ (σ 61 k).toInt ≤ 20) := id hI102
  have i32 : 0 ≤ (σ 55 9).toInt ∧ (σ 55 9).toInt ≤ 3 := hI103
  obtain ⟨i33, i34, i35, w36, w37⟩ : (1 ≤ (σ 55 10).toInt ∧ (σ 55 10).toInt ≤ 8) ∧ (1 ≤ (σ 55 12).toInt ∧ (σ 55 12).toInt ≤ 12) ∧ (0 ≤ (σ 55 13).toInt ∧ (σ 55 13).toInt ≤ 999) ∧ (∀ k : Nat, k < 8 → 0 ≤ (σ 62 k).toInt ∧ (σ 62 k).toInt ≤ 3) ∧ (∀ k : Nat, k < 8 → 0 ≤ (σ 67 k).toInt ∧ (σ 67 k).toInt ≤ 3) := id hI104
  obtain ⟨i38, w39⟩ : (0 ≤ (σ 55 15).toInt ∧ (σ 55 15).toInt ≤ 80) ∧ (∀ k : Nat, k < 2 → (-1) ≤ (σ 65 k).toInt ∧ (σ 65 k).toInt ≤ 80) := id hI105
  obtain ⟨i40, w41, w42, w43⟩ : (0 ≤ (σ 55 32).toInt ∧ (σ 55 32).toInt ≤ 20) ∧ (∀ k : Nat, k < 20 → 0 ≤ (σ 70 k).toInt ∧ (σ 70 k).toInt ≤ 6) ∧ (∀ k : Nat, k < 20 → 0 ≤ (σ 71 k).toInt ∧ (σ 71 k).toInt ≤ 8) ∧ (∀ k : Nat, k < 160 → 0 ≤ (σ 72 k).toInt ∧ (σ 72 k).toInt ≤ 3) := id hI106
  obtain ⟨i44, i45, w46⟩ : (0 ≤ (σ 55 47).toInt ∧ (σ 55 47).toInt ≤ 12) ∧ ((σ 55 47).toInt ≤ (σ 55 12).toInt) ∧ (∀ k : Nat, k < 12 → 0 ≤ (σ 80 k).toInt ∧ (σ 80 k).toInt ≤ 3) := id hI107
  have hs_jOk3 : jOk3 σ := hr0.ok hr1.1
  refine lv_aload_n hx hb dL_law_740 rfl (lv_at hl 2 rfl) ?_
  refine lv_aload_n hx hb dL_law_741 rfl (lv_at hl 3 rfl) ?_
  refine lv_iload_n hx hb dL_law_742 rfl (lv_at hl 0 rfl) ?_
  refine lv_iconst (v := 1) hx hb dL_law_743 (by decide) ?_
  have g47 := jrg (rfl : x0.toInt = x0.toInt)
  refine lv_iadd hx hb dL_law_744 ?_
  refine lv_topi (fun x48 ex48 => ?_)
  have tx48 : x48.toInt = x0.toInt + 1 := (jadd ex48 rfl jz_1 (by omega) (by omega)).trans (by omega)
  refine va_sld hx hb hX hbl hbA hS (jin tx48 (by omega) (by omega)) dL_law_745 ?_
  have g49 := jrg (rfl : (xs x48.toNatClampNeg).toInt = (xs x48.toNatClampNeg).toInt)
  refine lv_aload_n hx hb dL_law_746 rfl (lv_at hl 3 rfl) ?_
  refine lv_iload_n hx hb dL_law_747 rfl (lv_at hl 0 rfl) ?_
  refine lv_iconst (v := 2) hx hb dL_law_748 (by decide) ?_
  refine lv_iadd hx hb dL_law_749 ?_
  refine lv_topi (fun x50 ex50 => ?_)
  have tx50 : x50.toInt = x0.toInt + 2 := (jadd ex50 rfl jz_2 (by omega) (by omega)).trans (by omega)
  refine va_sld hx hb hX hbl hbA hS (jin tx50 (by omega) (by omega)) dL_law_750 ?_
  have g51 := jrg (rfl : (xs x50.toNatClampNeg).toInt = (xs x50.toNatClampNeg).toInt)
  refine jcallV (As := [.int (xs x48.toNatClampNeg), .int (xs x50.toNatClampNeg)]) (rest := []) ⟨hx, hb, hml, hown, hts⟩ hK hP hA hS hZ (c_X11_learn l D cI cL ad zz hJ σ τ (xs x48.toNatClampNeg) ((xs x48.toNatClampNeg).toInt) rfl (xs x50.toNatClampNeg) ((xs x50.toNatClampNeg).toInt) rfl hI2) cw_RL_89 (jc_0 cI cL ad σ τ) rfl ⟨Nat.le_of_ble_eq_true rfl, Nat.le_of_ble_eq_true rfl⟩ rfl rfl rfl hl.1 rfl (Nat.le_of_ble_eq_true rfl) dL_law_751 ⟨Nat.le_of_ble_eq_true rfl, Nat.le_of_ble_eq_true rfl⟩ (fun r53 σ52 τ52 H locs h52 hP hS => ?_)
  obtain ⟨rfl, f54, f55, I56, h52⟩ := h52
  obtain ⟨i58, i59, i60, i61, i62, w63⟩ : (0 ≤ (σ52 2 0).toInt ∧ (σ52 2 0).toInt ≤ 4) ∧ (0 ≤ (σ52 2 1).toInt ∧ (σ52 2 1).toInt ≤ 3) ∧ (0 ≤ (σ52 2 2).toInt) ∧ (0 ≤ (σ52 2 3).toInt) ∧ ((σ52 2 2).toInt + (σ52 2 3).toInt ≤ 40) ∧ (∀ k : Nat, k < 40 → 0 ≤ (σ52 6 k).toInt ∧ (σ52 6 k).toInt ≤ 67) := id I56
  have z64 : (σ52 2 0).toInt = (σ 2 0).toInt := (congrArg Int32.toInt (show σ52 2 0 = (σ 2 0) from (f55 0 (by decide))))
  have z65 : (σ52 2 1).toInt = (σ 2 1).toInt := (congrArg Int32.toInt (show σ52 2 1 = (σ 2 1) from (f55 1 (by decide))))
  rcases h52 with h66 | h67
  · obtain ⟨q72, k68, k69, k70, k71⟩ := h66
    have q72 := q72.symm
    subst q72
    refine lv_pop hx hb dL_law_754 rfl ?_
    refine lv_aload_n hx hb dL_law_755 rfl (lv_at hl 1 rfl) ?_
    refine lv_aload_n hx hb dL_law_756 rfl (lv_at hl 3 rfl) ?_
    refine lv_iload_n hx hb dL_law_757 rfl (lv_at hl 0 rfl) ?_
    refine lv_iconst (v := 1) hx hb dL_law_758 (by decide) ?_
    refine lv_iadd hx hb dL_law_759 ?_
    refine jtopr ex48.symm ?_
    refine va_sld hx hb hX hbl hbA hS (jin tx48 (by omega) (by omega)) dL_law_760 ?_
    refine lv_aload_n hx hb dL_law_761 rfl (lv_at hl 3 rfl) ?_
    refine lv_iload_n hx hb dL_law_762 rfl (lv_at hl 0 rfl) ?_
    refine lv_iconst (v := 2) hx hb dL_law_763 (by decide) ?_
    refine lv_iadd hx hb dL_law_764 ?_
    refine jtopr ex50.symm ?_
    refine va_sld hx hb hX hbl hbA hS (jin tx50 (by omega) (by omega)) dL_law_765 ?_
    have I73 : jI101 σ52 := jI101_fr (congrFun (f54 55 (by decide)) 4) (congrFun (f54 55 (by decide)) 5) (f54 56 (by decide)) (f54 57 (by decide)) (f54 58 (by decide)) (f54 59 (by decide)) hI101
    have I74 : jI102 σ52 := jI102_fr (congrFun (f54 55 (by decide)) 6) (f54 60 (by decide)) (f54 61 (by decide)) hI102
    have z75 : (σ52 55 6).toInt = (σ 55 6).toInt := (congrArg Int32.toInt (show σ52 55 6 = (σ 55 6) from (congrFun (f54 55 (by decide)) 6)))
    have z76 : (σ52 55 5).toInt = (σ 55 5).toInt := (congrArg Int32.toInt (show σ52 55 5 = (σ 55 5) from (congrFun (f54 55 (by decide)) 5)))
    have z77 : (σ52 55 4).toInt = (σ 55 4).toInt := (congrArg Int32.toInt (show σ52 55 4 = (σ 55 4) from (congrFun (f54 55 (by decide)) 4)))
    refine jcallV (As := [.int (xs x48.toNatClampNeg), .int (xs x50.toNatClampNeg)]) (rest := []) ⟨hx, hb, hml, hown, hts⟩ hK hP hA hS hZ (c_X12_learn l D cI cL ad zz hJ σ52 τ (xs x48.toNatClampNeg) ((xs x48.toNatClampNeg).toInt) rfl (xs x50.toNatClampNeg) ((xs x50.toNatClampNeg).toInt) rfl I73 I74) cw_RL_92 (jc_55 cI cL ad σ52 τ) rfl ⟨Nat.le_of_ble_eq_true rfl, Nat.le_of_ble_eq_true rfl⟩ rfl rfl rfl hl.1 rfl (Nat.le_of_ble_eq_true rfl) dL_law_766 ⟨Nat.le_of_ble_eq_true rfl, Nat.le_of_ble_eq_true rfl⟩ (fun r79 σ78 τ78 H locs h78 hP hS => ?_)
    obtain ⟨rfl, f80, f81, I82, h78⟩ := h78
    obtain ⟨i84, i85, i86, w87, w88, w89, w90⟩ : (0 ≤ (σ78 55 5).toInt) ∧ ((σ78 55 5).toInt ≤ (σ78 55 4).toInt) ∧ ((σ78 55 4).toInt ≤ 40) ∧ (∀ k : Nat, k < 68 → (-200) ≤ (σ78 56 k).toInt ∧ (σ78 56 k).toInt ≤ 500) ∧ (∀ k : Nat, k < 40 → 0 ≤ (σ78 57 k).toInt ∧ (σ78 57 k).toInt ≤ 67) ∧ (∀ k : Nat, k < 40 → (-200) ≤ (σ78 58 k).toInt ∧ (σ78 58 k).toInt ≤ 500) ∧ (∀ k : Nat, k < 40 → (-200) ≤ (σ78 59 k).toInt ∧ (σ78 59 k).toInt ≤ 500) := id I82
    rcases h78 with h91 | h92
    · obtain ⟨q97, k93, k94, k95, k96⟩ := h91
      have q97 := q97.symm
      subst q97
      refine lv_pop hx hb dL_law_769 rfl ?_
      refine lv_goto (tgt := 1357) hx hb dL_law_770 (by decide) ?_
      obtain ⟨x98, ex98⟩ : ∃ y : Int32, y = x0 + 6 := ⟨_, rfl⟩
      have tx98 : x98.toInt = x0.toInt + 6 := (jadd ex98 rfl jz_6 (by omega) (by omega)).trans (by omega)
      refine lv_iinc (v := x98) (lv' := [(3, .int x98), (2, .ref (ad 55)), (1, .ref (ad 0)), (0, .ref b)]) hx hb dL_law_1357 hl (k := 0) rfl (by rw [ex98]; rfl) (by decide) rfl (fun ls hl => ?_)
      refine lv_goto (tgt := 18) hx hb dL_law_1360 (by decide) ?_
      have I99 : jI2 σ78 := jI2_fr (congrFun (f80 2 (by decide)) 0) (congrFun (f80 2 (by decide)) 1) (congrFun (f80 2 (by decide)) 2) (congrFun (f80 2 (by decide)) 3) (f80 6 (by decide)) I56
      have I100 : jI9 σ78 := jI9_fr ((congrFun (f80 9 (by decide)) 0).trans (congrFun (f54 9 (by decide)) 0)) ((f80 10 (by decide)).trans (f54 10 (by decide))) ((f80 11 (by decide)).trans (f54 11 (by decide))) hI9
      have I101 : jI12 σ78 := jI12_fr ((congrFun (f80 12 (by decide)) 0).trans (congrFun (f54 12 (by decide)) 0)) ((f80 13 (by decide)).trans (f54 13 (by decide))) hI12
      have I102 : jI16 σ78 := jI16_fr ((congrFun (f80 16 (by decide)) 0).trans (congrFun (f54 16 (by decide)) 0)) ((congrFun (f80 16 (by decide)) 1).trans (congrFun (f54 16 (by decide)) 1)) ((congrFun (f80 16 (by decide)) 2).trans (congrFun (f54 16 (by decide)) 2)) ((f80 17 (by decide)).trans (f54 17 (by decide))) hI16
      have I103 : jI18 σ78 := jI18_fr ((congrFun (f80 18 (by decide)) 0).trans (congrFun (f54 18 (by decide)) 0)) ((f80 19 (by decide)).trans (f54 19 (by decide))) hI18
      have I104 : jI22 σ78 := jI22_fr ((congrFun (f80 22 (by decide)) 0).trans (congrFun (f54 22 (by decide)) 0)) ((f80 23 (by decide)).trans (f54 23 (by decide))) hI22
      have I105 : jI31 σ78 := jI31_fr ((congrFun (f80 31 (by decide)) 8).trans (congrFun (f54 31 (by decide)) 8)) ((congrFun (f80 31 (by decide)) 10).trans (congrFun (f54 31 (by decide)) 10)) ((congrFun (f80 31 (by decide)) 11).trans (congrFun (f54 31 (by decide)) 11)) ((f80 33 (by decide)).trans (f54 33 (by decide))) ((f80 35 (by decide)).trans (f54 35 (by decide))) ((f80 36 (by decide)).trans (f54 36 (by decide))) hI31
      have I106 : jI38 σ78 := jI38_fr ((congrFun (f80 38 (by decide)) 0).trans (congrFun (f54 38 (by decide)) 0)) ((congrFun (f80 38 (by decide)) 1).trans (congrFun (f54 38 (by decide)) 1)) ((f80 39 (by decide)).trans (f54 39 (by decide))) hI38
      have I107 : jI43 σ78 := jI43_fr ((congrFun (f80 43 (by decide)) 8).trans (congrFun (f54 43 (by decide)) 8)) hI43
      have I108 : jI47 σ78 := jI47_fr ((congrFun (f80 47 (by decide)) 0).trans (congrFun (f54 47 (by decide)) 0)) ((f80 48 (by decide)).trans (f54 48 (by decide))) ((f80 49 (by decide)).trans (f54 49 (by decide))) hI47
      have I109 : jI50 σ78 := jI50_fr ((f80 52 (by decide)).trans (f54 52 (by decide))) hI50
      have I110 : jI0 σ78 := jI0_fr ((f80 1 (by decide)).trans (f54 1 (by decide))) hI0
      have I111 : jI26 σ78 := jI26_fr ((congrFun (f80 26 (by decide)) 6).trans (congrFun (f54 26 (by decide)) 6)) hI26
      have I112 : jI102 σ78 := jI102_fr (f81 6 (by decide)) (f80 60 (by decide)) (f80 61 (by decide)) I74
      have I113 : jI103 σ78 := jI103_fr ((f81 9 (by decide)).trans (congrFun (f54 55 (by decide)) 9)) hI103
      have I114 : jI104 σ78 := jI104_fr ((f81 10 (by decide)).trans (congrFun (f54 55 (by decide)) 10)) ((f81 12 (by decide)).trans (congrFun (f54 55 (by decide)) 12)) ((f81 13 (by decide)).trans (congrFun (f54 55 (by decide)) 13)) ((f80 62 (by decide)).trans (f54 62 (by decide))) ((f80 67 (by decide)).trans (f54 67 (by decide))) hI104
      have I115 : jI105 σ78 := jI105_fr ((f81 15 (by decide)).trans (congrFun (f54 55 (by decide)) 15)) ((f80 65 (by decide)).trans (f54 65 (by decide))) hI105
      have I116 : jI106 σ78 := jI106_fr ((f81 32 (by decide)).trans (congrFun (f54 55 (by decide)) 32)) ((f80 70 (by decide)).trans (f54 70 (by decide))) ((f80 71 (by decide)).trans (f54 71 (by decide))) ((f80 72 (by decide)).trans (f54 72 (by decide))) hI106
      have I117 : jI107 σ78 := jI107_fr ((f81 12 (by decide)).trans (congrFun (f54 55 (by decide)) 12)) ((f81 47 (by decide)).trans (congrFun (f54 55 (by decide)) 47)) ((f80 80 (by decide)).trans (f54 80 (by decide))) hI107
      have I118 : jI109 σ78 := jI109_fr ((f81 50 (by decide)).trans (congrFun (f54 55 (by decide)) 50)) hI109
      have I119 : jI110 σ78 := jI110_fr ((f80 86 (by decide)).trans (f54 86 (by decide))) ((f80 87 (by decide)).trans (f54 87 (by decide))) hI110
      have I120 : jI111 σ78 := jI111_fr ((f80 79 (by decide)).trans (f54 79 (by decide))) hI111
      have I121 : jI119 σ78 := jI119_fr ((f80 68 (by decide)).trans (f54 68 (by decide))) hI119
      have p122 : jKept σ78 := jKept.fr ((f80 75 (by decide)).trans (f54 75 (by decide))) ((f80 76 (by decide)).trans (f54 76 (by decide))) ((f80 77 (by decide)).trans (f54 77 (by decide))) hs_jKept
      have p123 : jBook σ78 := jBook.fr ((f81 47 (by decide)).trans (congrFun (f54 55 (by decide)) 47)) ((f81 10 (by decide)).trans (congrFun (f54 55 (by decide)) 10)) ((f80 81 (by decide)).trans (f54 81 (by decide))) hs_jBook
      have p124 : jNd12 σ78 := jNd12.fr ((congrFun (f80 12 (by decide)) 0).trans (congrFun (f54 12 (by decide)) 0)) ((congrFun (f80 12 (by decide)) 1).trans (congrFun (f54 12 (by decide)) 1)) ((f80 13 (by decide)).trans (f54 13 (by decide))) hs_jNd12
      have p125 : jN67 σ78 := jN67.fr ((f80 24 (by decide)).trans (f54 24 (by decide))) hs_jN67
      have p126 : jBl σ78 := jBl.fr ((congrFun (f80 22 (by decide)) 0).trans (congrFun (f54 22 (by decide)) 0)) ((congrFun (f80 22 (by decide)) 1).trans (congrFun (f54 22 (by decide)) 1)) ((f80 23 (by decide)).trans (f54 23 (by decide))) ((congrFun (f80 26 (by decide)) 6).trans (congrFun (f54 26 (by decide)) 6)) ((congrFun (f80 26 (by decide)) 7).trans (congrFun (f54 26 (by decide)) 7)) ((f80 29 (by decide)).trans (f54 29 (by decide))) ((f80 30 (by decide)).trans (f54 30 (by decide))) hs_jBl
      have p127 : jKb σ78 := jKb.fr ((congrFun (f80 31 (by decide)) 8).trans (congrFun (f54 31 (by decide)) 8)) ((congrFun (f80 31 (by decide)) 11).trans (congrFun (f54 31 (by decide)) 11)) ((f80 32 (by decide)).trans (f54 32 (by decide))) hs_jKb
      have p128 : jTR σ78 := jTR.fr ((f80 64 (by decide)).trans (f54 64 (by decide))) ((f80 65 (by decide)).trans (f54 65 (by decide))) hs_jTR
      have p129 : jKh σ78 := jKh.fr ((congrFun (f80 31 (by decide)) 8).trans (congrFun (f54 31 (by decide)) 8)) ((f80 32 (by decide)).trans (f54 32 (by decide))) ((f80 36 (by decide)).trans (f54 36 (by decide))) ((f80 37 (by decide)).trans (f54 37 (by decide))) hs_jKh
      have p130 : jKg σ78 := jKg.fr ((congrFun (f80 31 (by decide)) 8).trans (congrFun (f54 31 (by decide)) 8)) ((congrFun (f80 31 (by decide)) 9).trans (congrFun (f54 31 (by decide)) 9)) ((congrFun (f80 31 (by decide)) 11).trans (congrFun (f54 31 (by decide)) 11)) ((congrFun (f80 31 (by decide)) 12).trans (congrFun (f54 31 (by decide)) 12)) ((f80 32 (by decide)).trans (f54 32 (by decide))) ((f80 33 (by decide)).trans (f54 33 (by decide))) hs_jKg
      have z131 : (σ78 2 0).toInt = (σ 2 0).toInt := (congrArg Int32.toInt (show σ78 2 0 = (σ 2 0) from ((congrFun (f80 2 (by decide)) 0).trans (f55 0 (by decide)))))
      have z132 : (σ78 55 6).toInt = (σ 55 6).toInt := (congrArg Int32.toInt (show σ78 55 6 = (σ 55 6) from ((f81 6 (by decide)).trans (congrFun (f54 55 (by decide)) 6))))
      have z133 : (σ78 2 2).toInt = (σ52 2 2).toInt := (congrArg Int32.toInt (show σ78 2 2 = (σ52 2 2) from (congrFun (f80 2 (by decide)) 2)))
      have z134 : (σ78 2 3).toInt = (σ52 2 3).toInt := (congrArg Int32.toInt (show σ78 2 3 = (σ52 2 3) from (congrFun (f80 2 (by decide)) 3)))
      have z135 : (σ78 9 0).toInt = (σ 9 0).toInt := (congrArg Int32.toInt (show σ78 9 0 = (σ 9 0) from ((congrFun (f80 9 (by decide)) 0).trans (congrFun (f54 9 (by decide)) 0))))
      have z136 : (σ78 55 15).toInt = (σ 55 15).toInt := (congrArg Int32.toInt (show σ78 55 15 = (σ 55 15) from ((f81 15 (by decide)).trans (congrFun (f54 55 (by decide)) 15))))
      have z137 : (σ78 16 0).toInt = (σ 16 0).toInt := (congrArg Int32.toInt (show σ78 16 0 = (σ 16 0) from ((congrFun (f80 16 (by decide)) 0).trans (congrFun (f54 16 (by decide)) 0))))
      have z138 : (σ78 55 10).toInt = (σ 55 10).toInt := (congrArg Int32.toInt (show σ78 55 10 = (σ 55 10) from ((f81 10 (by decide)).trans (congrFun (f54 55 (by decide)) 10))))
      have z139 : (σ78 16 1).toInt = (σ 16 1).toInt := (congrArg Int32.toInt (show σ78 16 1 = (σ 16 1) from ((congrFun (f80 16 (by decide)) 1).trans (congrFun (f54 16 (by decide)) 1))))
      have z140 : (σ78 55 12).toInt = (σ 55 12).toInt := (congrArg Int32.toInt (show σ78 55 12 = (σ 55 12) from ((f81 12 (by decide)).trans (congrFun (f54 55 (by decide)) 12))))
      have z141 : (σ78 16 2).toInt = (σ 16 2).toInt := (congrArg Int32.toInt (show σ78 16 2 = (σ 16 2) from ((congrFun (f80 16 (by decide)) 2).trans (congrFun (f54 16 (by decide)) 2))))
      have z142 : (σ78 55 13).toInt = (σ 55 13).toInt := (congrArg Int32.toInt (show σ78 55 13 = (σ 55 13) from ((f81 13 (by decide)).trans (congrFun (f54 55 (by decide)) 13))))
      have z143 : (σ78 38 0).toInt = (σ 38 0).toInt := (congrArg Int32.toInt (show σ78 38 0 = (σ 38 0) from ((congrFun (f80 38 (by decide)) 0).trans (congrFun (f54 38 (by decide)) 0))))
      have z144 : (σ78 55 32).toInt = (σ 55 32).toInt := (congrArg Int32.toInt (show σ78 55 32 = (σ 55 32) from ((f81 32 (by decide)).trans (congrFun (f54 55 (by decide)) 32))))
      have z145 : (σ78 38 1).toInt = (σ 38 1).toInt := (congrArg Int32.toInt (show σ78 38 1 = (σ 38 1) from ((congrFun (f80 38 (by decide)) 1).trans (congrFun (f54 38 (by decide)) 1))))
      have z146 : (σ78 55 55).toInt = (σ 55 55).toInt := (congrArg Int32.toInt (show σ78 55 55 = (σ 55 55) from ((f81 55 (by decide)).trans (congrFun (f54 55 (by decide)) 55))))
      have z147 : (σ78 47 0).toInt = (σ 47 0).toInt := (congrArg Int32.toInt (show σ78 47 0 = (σ 47 0) from ((congrFun (f80 47 (by decide)) 0).trans (congrFun (f54 47 (by decide)) 0))))
      have z148 : (σ78 55 47).toInt = (σ 55 47).toInt := (congrArg Int32.toInt (show σ78 55 47 = (σ 55 47) from ((f81 47 (by decide)).trans (congrFun (f54 55 (by decide)) 47))))
      have z149 : (σ78 55 30).toInt = (σ 55 30).toInt := (congrArg Int32.toInt (show σ78 55 30 = (σ 55 30) from ((f81 30 (by decide)).trans (congrFun (f54 55 (by decide)) 30))))
      have z150 : (σ78 55 31).toInt = (σ 55 31).toInt := (congrArg Int32.toInt (show σ78 55 31 = (σ 55 31) from ((f81 31 (by decide)).trans (congrFun (f54 55 (by decide)) 31))))
      have z151 : (σ78 2 1).toInt = (σ 2 1).toInt := (congrArg Int32.toInt (show σ78 2 1 = (σ 2 1) from ((congrFun (f80 2 (by decide)) 1).trans (f55 1 (by decide)))))
      have z152 : (σ78 55 9).toInt = (σ 55 9).toInt := (congrArg Int32.toInt (show σ78 55 9 = (σ 55 9) from ((f81 9 (by decide)).trans (congrFun (f54 55 (by decide)) 9))))
      have z153 : (σ78 26 6).toInt = (σ 26 6).toInt := (congrArg Int32.toInt (show σ78 26 6 = (σ 26 6) from ((congrFun (f80 26 (by decide)) 6).trans (congrFun (f54 26 (by decide)) 6))))
      have z155 : (σ78 18 0).toInt = (σ 18 0).toInt := (congrArg Int32.toInt (show σ78 18 0 = (σ 18 0) from ((congrFun (f80 18 (by decide)) 0).trans (congrFun (f54 18 (by decide)) 0))))
      have z156 : (σ78 22 0).toInt = (σ 22 0).toInt := (congrArg Int32.toInt (show σ78 22 0 = (σ 22 0) from ((congrFun (f80 22 (by decide)) 0).trans (congrFun (f54 22 (by decide)) 0))))
      exact ih x98 σ78 τ _ _ ls (by have h9 := tx98; omega) ⟨I99, I100, I101, I102, I103, I104, I105, I106, I107, I108, I109, I110, I111, I82, I112, I113, I114, I115, I116, I117, I118, I119, I120, I121, p122, p123, p124, p125, p126, p127, p128, p129, p130, (by omega), (by omega), (by omega), (by omega), (by omega), (by omega), (by omega), (by omega), (by omega), (by omega), (by omega), (by omega), (by omega), (by have h9 := tx98; omega), (show jNumP (σ78 3) (σ78 56) (σ78 6) (σ78 57) (σ78 7) (σ78 58) (σ78 8) (σ78 59) (σ78 55 6).toInt (σ78 55 4).toInt by rw [show σ78 3 = σ 3 from ((f80 3 (by decide)).trans k71.1), show σ78 56 = σ 56 from (k96.1.trans (f54 56 (by decide))), show σ78 6 = σ 6 from ((f80 6 (by decide)).trans k71.2.1), show σ78 57 = σ 57 from (k96.2.1.trans (f54 57 (by decide))), show σ78 7 = σ 7 from ((f80 7 (by decide)).trans k71.2.2.1), show σ78 58 = σ 58 from (k96.2.2.1.trans (f54 58 (by decide))), show σ78 8 = σ 8 from ((f80 8 (by decide)).trans k71.2.2.2), show σ78 59 = σ 59 from (k96.2.2.2.trans (f54 59 (by decide))), show (σ78 55 6).toInt = (σ 55 6).toInt from by omega, show (σ78 55 4).toInt = (σ 55 4).toInt from by omega]; exact hr0), (show jOvP (σ78 56) (σ78 57) (σ78 58) (σ78 59) (σ78 55 4).toInt by rw [show σ78 56 = σ 56 from (k96.1.trans (f54 56 (by decide))), show σ78 57 = σ 57 from (k96.2.1.trans (f54 57 (by decide))), show σ78 58 = σ 58 from (k96.2.2.1.trans (f54 58 (by decide))), show σ78 59 = σ 59 from (k96.2.2.2.trans (f54 59 (by decide))), show (σ78 55 4).toInt = (σ 55 4).toInt from by omega]; exact hr1), (show jTp (σ78 10) (σ78 63) (σ78 55 15).toInt by rw [show σ78 10 = σ 10 from ((f80 10 (by decide)).trans (f54 10 (by decide))), show σ78 63 = σ 63 from ((f80 63 (by decide)).trans (f54 63 (by decide)))]; exact hr2.le (by omega)), (show jSo (σ78 17) (σ78 62) (σ78 16 0).toInt by rw [show σ78 17 = σ 17 from ((f80 17 (by decide)).trans (f54 17 (by decide))), show σ78 62 = σ 62 from ((f80 62 (by decide)).trans (f54 62 (by decide))), show (σ78 16 0).toInt = (σ 16 0).toInt from by omega]; exact hr3), (show jShP (σ78 51) (σ78 52) (σ78 53) (σ78 86) (σ78 87) (σ78 55 32).toInt by rw [show σ78 51 = σ 51 from ((f80 51 (by decide)).trans (f54 51 (by decide))), show σ78 52 = σ 52 from ((f80 52 (by decide)).trans (f54 52 (by decide))), show σ78 53 = σ 53 from ((f80 53 (by decide)).trans (f54 53 (by decide))), show σ78 86 = σ 86 from ((f80 86 (by decide)).trans (f54 86 (by decide))), show σ78 87 = σ 87 from ((f80 87 (by decide)).trans (f54 87 (by decide)))]; exact (hr4.up (by omega) (by omega))), (show jEl (σ78 51) (σ78 52) (τ 54) (τ 88) by rw [show σ78 51 = σ 51 from ((f80 51 (by decide)).trans (f54 51 (by decide))), show σ78 52 = σ 52 from ((f80 52 (by decide)).trans (f54 52 (by decide)))]; exact hr5), (show jByP (σ78 51) (σ78 52) (τ 54) by rw [show σ78 51 = σ 51 from ((f80 51 (by decide)).trans (f54 51 (by decide))), show σ78 52 = σ 52 from ((f80 52 (by decide)).trans (f54 52 (by decide)))]; exact hr6), (show jBk (σ78 48) (σ78 80) (σ78 49) (σ78 81) (σ78 55 47).toInt by rw [show σ78 48 = σ 48 from ((f80 48 (by decide)).trans (f54 48 (by decide))), show σ78 49 = σ 49 from ((f80 49 (by decide)).trans (f54 49 (by decide))), show σ78 80 = σ 80 from ((f80 80 (by decide)).trans (f54 80 (by decide))), show σ78 81 = σ 81 from ((f80 81 (by decide)).trans (f54 81 (by decide))), show (σ78 55 47).toInt = (σ 55 47).toInt from by omega]; exact hr7), (show jKd (σ78 39) (σ78 70) (σ78 55 32).toInt by rw [show σ78 39 = σ 39 from ((f80 39 (by decide)).trans (f54 39 (by decide))), show σ78 70 = σ 70 from ((f80 70 (by decide)).trans (f54 70 (by decide))), show (σ78 55 32).toInt = (σ 55 32).toInt from by omega]; exact hr8), (show jTt (σ78 42) (σ78 85) (σ78 55 55).toInt by rw [show σ78 42 = σ 42 from ((f80 42 (by decide)).trans (f54 42 (by decide))), show σ78 85 = σ 85 from ((f80 85 (by decide)).trans (f54 85 (by decide))), show (σ78 55 55).toInt = (σ 55 55).toInt from by omega]; exact hr9), (fun k hk => by rw [show σ78 4 = σ 4 from ((f80 4 (by decide)).trans (f54 4 (by decide))), show σ78 5 = σ 5 from ((f80 5 (by decide)).trans (f54 5 (by decide))), show σ78 60 = σ 60 from ((f80 60 (by decide)).trans (f54 60 (by decide))), show σ78 61 = σ 61 from ((f80 61 (by decide)).trans (f54 61 (by decide)))]; exact hr10 k (by omega)), (fun nm => by rw [show σ78 19 = σ 19 from ((f80 19 (by decide)).trans (f54 19 (by decide))), show σ78 64 = σ 64 from ((f80 64 (by decide)).trans (f54 64 (by decide))), show σ78 65 = σ 65 from ((f80 65 (by decide)).trans (f54 65 (by decide))), show (σ78 18 0).toInt = (σ 18 0).toInt from by omega]; exact hr11 nm), (fun nm => by rw [show σ78 23 = σ 23 from ((f80 23 (by decide)).trans (f54 23 (by decide))), show σ78 64 = σ 64 from ((f80 64 (by decide)).trans (f54 64 (by decide))), show σ78 65 = σ 65 from ((f80 65 (by decide)).trans (f54 65 (by decide))), show (σ78 22 0).toInt = (σ 22 0).toInt from by omega]; exact hr12 nm)⟩ hP hS (lv_sub hl [0, 1, 2, 3] rfl)
    · obtain ⟨q164, k157, k158, k159, k160, k161, k162, k163⟩ := h92
      refine lv_pop hx hb dL_law_769 rfl ?_
      refine lv_goto (tgt := 1357) hx hb dL_law_770 (by decide) ?_
      obtain ⟨x165, ex165⟩ : ∃ y : Int32, y = x0 + 6 := ⟨_, rfl⟩
      have tx165 : x165.toInt = x0.toInt + 6 := (jadd ex165 rfl jz_6 (by omega) (by omega)).trans (by omega)
      refine lv_iinc (v := x165) (lv' := [(3, .int x165), (2, .ref (ad 55)), (1, .ref (ad 0)), (0, .ref b)]) hx hb dL_law_1357 hl (k := 0) rfl (by rw [ex165]; rfl) (by decide) rfl (fun ls hl => ?_)
      refine lv_goto (tgt := 18) hx hb dL_law_1360 (by decide) ?_
      have I166 : jI2 σ78 := jI2_fr (congrFun (f80 2 (by decide)) 0) (congrFun (f80 2 (by decide)) 1) (congrFun (f80 2 (by decide)) 2) (congrFun (f80 2 (by decide)) 3) (f80 6 (by decide)) I56
      have I167 : jI9 σ78 := jI9_fr ((congrFun (f80 9 (by decide)) 0).trans (congrFun (f54 9 (by decide)) 0)) ((f80 10 (by decide)).trans (f54 10 (by decide))) ((f80 11 (by decide)).trans (f54 11 (by decide))) hI9
      have I168 : jI12 σ78 := jI12_fr ((congrFun (f80 12 (by decide)) 0).trans (congrFun (f54 12 (by decide)) 0)) ((f80 13 (by decide)).trans (f54 13 (by decide))) hI12
      have I169 : jI16 σ78 := jI16_fr ((congrFun (f80 16 (by decide)) 0).trans (congrFun (f54 16 (by decide)) 0)) ((congrFun (f80 16 (by decide)) 1).trans (congrFun (f54 16 (by decide)) 1)) ((congrFun (f80 16 (by decide)) 2).trans (congrFun (f54 16 (by decide)) 2)) ((f80 17 (by decide)).trans (f54 17 (by decide))) hI16
      have I170 : jI18 σ78 := jI18_fr ((congrFun (f80 18 (by decide)) 0).trans (congrFun (f54 18 (by decide)) 0)) ((f80 19 (by decide)).trans (f54 19 (by decide))) hI18
      have I171 : jI22 σ78 := jI22_fr ((congrFun (f80 22 (by decide)) 0).trans (congrFun (f54 22 (by decide)) 0)) ((f80 23 (by decide)).trans (f54 23 (by decide))) hI22
      have I172 : jI31 σ78 := jI31_fr ((congrFun (f80 31 (by decide)) 8).trans (congrFun (f54 31 (by decide)) 8)) ((congrFun (f80 31 (by decide)) 10).trans (congrFun (f54 31 (by decide)) 10)) ((congrFun (f80 31 (by decide)) 11).trans (congrFun (f54 31 (by decide)) 11)) ((f80 33 (by decide)).trans (f54 33 (by decide))) ((f80 35 (by decide)).trans (f54 35 (by decide))) ((f80 36 (by decide)).trans (f54 36 (by decide))) hI31
      have I173 : jI38 σ78 := jI38_fr ((congrFun (f80 38 (by decide)) 0).trans (congrFun (f54 38 (by decide)) 0)) ((congrFun (f80 38 (by decide)) 1).trans (congrFun (f54 38 (by decide)) 1)) ((f80 39 (by decide)).trans (f54 39 (by decide))) hI38
      have I174 : jI43 σ78 := jI43_fr ((congrFun (f80 43 (by decide)) 8).trans (congrFun (f54 43 (by decide)) 8)) hI43
      have I175 : jI47 σ78 := jI47_fr ((congrFun (f80 47 (by decide)) 0).trans (congrFun (f54 47 (by decide)) 0)) ((f80 48 (by decide)).trans (f54 48 (by decide))) ((f80 49 (by decide)).trans (f54 49 (by decide))) hI47
      have I176 : jI50 σ78 := jI50_fr ((f80 52 (by decide)).trans (f54 52 (by decide))) hI50
      have I177 : jI0 σ78 := jI0_fr ((f80 1 (by decide)).trans (f54 1 (by decide))) hI0
      have I178 : jI26 σ78 := jI26_fr ((congrFun (f80 26 (by decide)) 6).trans (congrFun (f54 26 (by decide)) 6)) hI26
      have I179 : jI102 σ78 := jI102_fr (f81 6 (by decide)) (f80 60 (by decide)) (f80 61 (by decide)) I74
      have I180 : jI103 σ78 := jI103_fr ((f81 9 (by decide)).trans (congrFun (f54 55 (by decide)) 9)) hI103
      have I181 : jI104 σ78 := jI104_fr ((f81 10 (by decide)).trans (congrFun (f54 55 (by decide)) 10)) ((f81 12 (by decide)).trans (congrFun (f54 55 (by decide)) 12)) ((f81 13 (by decide)).trans (congrFun (f54 55 (by decide)) 13)) ((f80 62 (by decide)).trans (f54 62 (by decide))) ((f80 67 (by decide)).trans (f54 67 (by decide))) hI104
      have I182 : jI105 σ78 := jI105_fr ((f81 15 (by decide)).trans (congrFun (f54 55 (by decide)) 15)) ((f80 65 (by decide)).trans (f54 65 (by decide))) hI105
      have I183 : jI106 σ78 := jI106_fr ((f81 32 (by decide)).trans (congrFun (f54 55 (by decide)) 32)) ((f80 70 (by decide)).trans (f54 70 (by decide))) ((f80 71 (by decide)).trans (f54 71 (by decide))) ((f80 72 (by decide)).trans (f54 72 (by decide))) hI106
      have I184 : jI107 σ78 := jI107_fr ((f81 12 (by decide)).trans (congrFun (f54 55 (by decide)) 12)) ((f81 47 (by decide)).trans (congrFun (f54 55 (by decide)) 47)) ((f80 80 (by decide)).trans (f54 80 (by decide))) hI107
      have I185 : jI109 σ78 := jI109_fr ((f81 50 (by decide)).trans (congrFun (f54 55 (by decide)) 50)) hI109
      have I186 : jI110 σ78 := jI110_fr ((f80 86 (by decide)).trans (f54 86 (by decide))) ((f80 87 (by decide)).trans (f54 87 (by decide))) hI110
      have I187 : jI111 σ78 := jI111_fr ((f80 79 (by decide)).trans (f54 79 (by decide))) hI111
      have I188 : jI119 σ78 := jI119_fr ((f80 68 (by decide)).trans (f54 68 (by decide))) hI119
      have p189 : jKept σ78 := jKept.fr ((f80 75 (by decide)).trans (f54 75 (by decide))) ((f80 76 (by decide)).trans (f54 76 (by decide))) ((f80 77 (by decide)).trans (f54 77 (by decide))) hs_jKept
      have p190 : jBook σ78 := jBook.fr ((f81 47 (by decide)).trans (congrFun (f54 55 (by decide)) 47)) ((f81 10 (by decide)).trans (congrFun (f54 55 (by decide)) 10)) ((f80 81 (by decide)).trans (f54 81 (by decide))) hs_jBook
      have p191 : jNd12 σ78 := jNd12.fr ((congrFun (f80 12 (by decide)) 0).trans (congrFun (f54 12 (by decide)) 0)) ((congrFun (f80 12 (by decide)) 1).trans (congrFun (f54 12 (by decide)) 1)) ((f80 13 (by decide)).trans (f54 13 (by decide))) hs_jNd12
      have p192 : jN67 σ78 := jN67.fr ((f80 24 (by decide)).trans (f54 24 (by decide))) hs_jN67
      have p193 : jBl σ78 := jBl.fr ((congrFun (f80 22 (by decide)) 0).trans (congrFun (f54 22 (by decide)) 0)) ((congrFun (f80 22 (by decide)) 1).trans (congrFun (f54 22 (by decide)) 1)) ((f80 23 (by decide)).trans (f54 23 (by decide))) ((congrFun (f80 26 (by decide)) 6).trans (congrFun (f54 26 (by decide)) 6)) ((congrFun (f80 26 (by decide)) 7).trans (congrFun (f54 26 (by decide)) 7)) ((f80 29 (by decide)).trans (f54 29 (by decide))) ((f80 30 (by decide)).trans (f54 30 (by decide))) hs_jBl
      have p194 : jKb σ78 := jKb.fr ((congrFun (f80 31 (by decide)) 8).trans (congrFun (f54 31 (by decide)) 8)) ((congrFun (f80 31 (by decide)) 11).trans (congrFun (f54 31 (by decide)) 11)) ((f80 32 (by decide)).trans (f54 32 (by decide))) hs_jKb
      have p195 : jTR σ78 := jTR.fr ((f80 64 (by decide)).trans (f54 64 (by decide))) ((f80 65 (by decide)).trans (f54 65 (by decide))) hs_jTR
      have p196 : jKh σ78 := jKh.fr ((congrFun (f80 31 (by decide)) 8).trans (congrFun (f54 31 (by decide)) 8)) ((f80 32 (by decide)).trans (f54 32 (by decide))) ((f80 36 (by decide)).trans (f54 36 (by decide))) ((f80 37 (by decide)).trans (f54 37 (by decide))) hs_jKh
      have p197 : jKg σ78 := jKg.fr ((congrFun (f80 31 (by decide)) 8).trans (congrFun (f54 31 (by decide)) 8)) ((congrFun (f80 31 (by decide)) 9).trans (congrFun (f54 31 (by decide)) 9)) ((congrFun (f80 31 (by decide)) 11).trans (congrFun (f54 31 (by decide)) 11)) ((congrFun (f80 31 (by decide)) 12).trans (congrFun (f54 31 (by decide)) 12)) ((f80 32 (by decide)).trans (f54 32 (by decide))) ((f80 33 (by decide)).trans (f54 33 (by decide))) hs_jKg
      have z198 : (σ78 2 0).toInt = (σ 2 0).toInt := (congrArg Int32.toInt (show σ78 2 0 = (σ 2 0) from ((congrFun (f80 2 (by decide)) 0).trans (f55 0 (by decide)))))
      have z199 : (σ78 55 6).toInt = (σ 55 6).toInt := (congrArg Int32.toInt (show σ78 55 6 = (σ 55 6) from ((f81 6 (by decide)).trans (congrFun (f54 55 (by decide)) 6))))
      have z200 : (σ78 2 2).toInt = (σ52 2 2).toInt := (congrArg Int32.toInt (show σ78 2 2 = (σ52 2 2) from (congrFun (f80 2 (by decide)) 2)))
      have z201 : (σ78 2 3).toInt = (σ52 2 3).toInt := (congrArg Int32.toInt (show σ78 2 3 = (σ52 2 3) from (congrFun (f80 2 (by decide)) 3)))
      have z202 : (σ78 9 0).toInt = (σ 9 0).toInt := (congrArg Int32.toInt (show σ78 9 0 = (σ 9 0) from ((congrFun (f80 9 (by decide)) 0).trans (congrFun (f54 9 (by decide)) 0))))
      have z203 : (σ78 55 15).toInt = (σ 55 15).toInt := (congrArg Int32.toInt (show σ78 55 15 = (σ 55 15) from ((f81 15 (by decide)).trans (congrFun (f54 55 (by decide)) 15))))
      have z204 : (σ78 16 0).toInt = (σ 16 0).toInt := (congrArg Int32.toInt (show σ78 16 0 = (σ 16 0) from ((congrFun (f80 16 (by decide)) 0).trans (congrFun (f54 16 (by decide)) 0))))
      have z205 : (σ78 55 10).toInt = (σ 55 10).toInt := (congrArg Int32.toInt (show σ78 55 10 = (σ 55 10) from ((f81 10 (by decide)).trans (congrFun (f54 55 (by decide)) 10))))
      have z206 : (σ78 16 1).toInt = (σ 16 1).toInt := (congrArg Int32.toInt (show σ78 16 1 = (σ 16 1) from ((congrFun (f80 16 (by decide)) 1).trans (congrFun (f54 16 (by decide)) 1))))
      have z207 : (σ78 55 12).toInt = (σ 55 12).toInt := (congrArg Int32.toInt (show σ78 55 12 = (σ 55 12) from ((f81 12 (by decide)).trans (congrFun (f54 55 (by decide)) 12))))
      have z208 : (σ78 16 2).toInt = (σ 16 2).toInt := (congrArg Int32.toInt (show σ78 16 2 = (σ 16 2) from ((congrFun (f80 16 (by decide)) 2).trans (congrFun (f54 16 (by decide)) 2))))
      have z209 : (σ78 55 13).toInt = (σ 55 13).toInt := (congrArg Int32.toInt (show σ78 55 13 = (σ 55 13) from ((f81 13 (by decide)).trans (congrFun (f54 55 (by decide)) 13))))
      have z210 : (σ78 38 0).toInt = (σ 38 0).toInt := (congrArg Int32.toInt (show σ78 38 0 = (σ 38 0) from ((congrFun (f80 38 (by decide)) 0).trans (congrFun (f54 38 (by decide)) 0))))
      have z211 : (σ78 55 32).toInt = (σ 55 32).toInt := (congrArg Int32.toInt (show σ78 55 32 = (σ 55 32) from ((f81 32 (by decide)).trans (congrFun (f54 55 (by decide)) 32))))
      have z212 : (σ78 38 1).toInt = (σ 38 1).toInt := (congrArg Int32.toInt (show σ78 38 1 = (σ 38 1) from ((congrFun (f80 38 (by decide)) 1).trans (congrFun (f54 38 (by decide)) 1))))
      have z213 : (σ78 55 55).toInt = (σ 55 55).toInt := (congrArg Int32.toInt (show σ78 55 55 = (σ 55 55) from ((f81 55 (by decide)).trans (congrFun (f54 55 (by decide)) 55))))
      have z214 : (σ78 47 0).toInt = (σ 47 0).toInt := (congrArg Int32.toInt (show σ78 47 0 = (σ 47 0) from ((congrFun (f80 47 (by decide)) 0).trans (congrFun (f54 47 (by decide)) 0))))
      have z215 : (σ78 55 47).toInt = (σ 55 47).toInt := (congrArg Int32.toInt (show σ78 55 47 = (σ 55 47) from ((f81 47 (by decide)).trans (congrFun (f54 55 (by decide)) 47))))
      have z216 : (σ78 55 30).toInt = (σ 55 30).toInt := (congrArg Int32.toInt (show σ78 55 30 = (σ 55 30) from ((f81 30 (by decide)).trans (congrFun (f54 55 (by decide)) 30))))
      have z217 : (σ78 55 31).toInt = (σ 55 31).toInt := (congrArg Int32.toInt (show σ78 55 31 = (σ 55 31) from ((f81 31 (by decide)).trans (congrFun (f54 55 (by decide)) 31))))
      have z218 : (σ78 2 1).toInt = (σ 2 1).toInt := (congrArg Int32.toInt (show σ78 2 1 = (σ 2 1) from ((congrFun (f80 2 (by decide)) 1).trans (f55 1 (by decide)))))
      have z219 : (σ78 55 9).toInt = (σ 55 9).toInt := (congrArg Int32.toInt (show σ78 55 9 = (σ 55 9) from ((f81 9 (by decide)).trans (congrFun (f54 55 (by decide)) 9))))
      have z220 : (σ78 26 6).toInt = (σ 26 6).toInt := (congrArg Int32.toInt (show σ78 26 6 = (σ 26 6) from ((congrFun (f80 26 (by decide)) 6).trans (congrFun (f54 26 (by decide)) 6))))
      have z222 : (σ78 18 0).toInt = (σ 18 0).toInt := (congrArg Int32.toInt (show σ78 18 0 = (σ 18 0) from ((congrFun (f80 18 (by decide)) 0).trans (congrFun (f54 18 (by decide)) 0))))
      have z223 : (σ78 22 0).toInt = (σ 22 0).toInt := (congrArg Int32.toInt (show σ78 22 0 = (σ 22 0) from ((congrFun (f80 22 (by decide)) 0).trans (congrFun (f54 22 (by decide)) 0))))
      exact ih x165 σ78 τ _ _ ls (by have h9 := tx165; omega) ⟨I166, I167, I168, I169, I170, I171, I172, I173, I174, I175, I176, I177, I178, I82, I179, I180, I181, I182, I183, I184, I185, I186, I187, I188, p189, p190, p191, p192, p193, p194, p195, p196, p197, (by omega), (by omega), (by omega), (by omega), (by omega), (by omega), (by omega), (by omega), (by omega), (by omega), (by omega), (by omega), (by omega), (by have h9 := tx165; omega), (False.elim (by omega)), (False.elim (by omega)), (show jTp (σ78 10) (σ78 63) (σ78 55 15).toInt by rw [show σ78 10 = σ 10 from ((f80 10 (by decide)).trans (f54 10 (by decide))), show σ78 63 = σ 63 from ((f80 63 (by decide)).trans (f54 63 (by decide)))]; exact hr2.le (by omega)), (show jSo (σ78 17) (σ78 62) (σ78 16 0).toInt by rw [show σ78 17 = σ 17 from ((f80 17 (by decide)).trans (f54 17 (by decide))), show σ78 62 = σ 62 from ((f80 62 (by decide)).trans (f54 62 (by decide))), show (σ78 16 0).toInt = (σ 16 0).toInt from by omega]; exact hr3), (show jShP (σ78 51) (σ78 52) (σ78 53) (σ78 86) (σ78 87) (σ78 55 32).toInt by rw [show σ78 51 = σ 51 from ((f80 51 (by decide)).trans (f54 51 (by decide))), show σ78 52 = σ 52 from ((f80 52 (by decide)).trans (f54 52 (by decide))), show σ78 53 = σ 53 from ((f80 53 (by decide)).trans (f54 53 (by decide))), show σ78 86 = σ 86 from ((f80 86 (by decide)).trans (f54 86 (by decide))), show σ78 87 = σ 87 from ((f80 87 (by decide)).trans (f54 87 (by decide)))]; exact (hr4.up (by omega) (by omega))), (show jEl (σ78 51) (σ78 52) (τ 54) (τ 88) by rw [show σ78 51 = σ 51 from ((f80 51 (by decide)).trans (f54 51 (by decide))), show σ78 52 = σ 52 from ((f80 52 (by decide)).trans (f54 52 (by decide)))]; exact hr5), (show jByP (σ78 51) (σ78 52) (τ 54) by rw [show σ78 51 = σ 51 from ((f80 51 (by decide)).trans (f54 51 (by decide))), show σ78 52 = σ 52 from ((f80 52 (by decide)).trans (f54 52 (by decide)))]; exact hr6), (show jBk (σ78 48) (σ78 80) (σ78 49) (σ78 81) (σ78 55 47).toInt by rw [show σ78 48 = σ 48 from ((f80 48 (by decide)).trans (f54 48 (by decide))), show σ78 49 = σ 49 from ((f80 49 (by decide)).trans (f54 49 (by decide))), show σ78 80 = σ 80 from ((f80 80 (by decide)).trans (f54 80 (by decide))), show σ78 81 = σ 81 from ((f80 81 (by decide)).trans (f54 81 (by decide))), show (σ78 55 47).toInt = (σ 55 47).toInt from by omega]; exact hr7), (show jKd (σ78 39) (σ78 70) (σ78 55 32).toInt by rw [show σ78 39 = σ 39 from ((f80 39 (by decide)).trans (f54 39 (by decide))), show σ78 70 = σ 70 from ((f80 70 (by decide)).trans (f54 70 (by decide))), show (σ78 55 32).toInt = (σ 55 32).toInt from by omega]; exact hr8), (show jTt (σ78 42) (σ78 85) (σ78 55 55).toInt by rw [show σ78 42 = σ 42 from ((f80 42 (by decide)).trans (f54 42 (by decide))), show σ78 85 = σ 85 from ((f80 85 (by decide)).trans (f54 85 (by decide))), show (σ78 55 55).toInt = (σ 55 55).toInt from by omega]; exact hr9), (fun k hk => by rw [show σ78 4 = σ 4 from ((f80 4 (by decide)).trans (f54 4 (by decide))), show σ78 5 = σ 5 from ((f80 5 (by decide)).trans (f54 5 (by decide))), show σ78 60 = σ 60 from ((f80 60 (by decide)).trans (f54 60 (by decide))), show σ78 61 = σ 61 from ((f80 61 (by decide)).trans (f54 61 (by decide)))]; exact hr10 k (by omega)), (fun nm => by rw [show σ78 19 = σ 19 from ((f80 19 (by decide)).trans (f54 19 (by decide))), show σ78 64 = σ 64 from ((f80 64 (by decide)).trans (f54 64 (by decide))), show σ78 65 = σ 65 from ((f80 65 (by decide)).trans (f54 65 (by decide))), show (σ78 18 0).toInt = (σ 18 0).toInt from by omega]; exact hr11 nm), (fun nm => by rw [show σ78 23 = σ 23 from ((f80 23 (by decide)).trans (f54 23 (by decide))), show σ78 64 = σ 64 from ((f80 64 (by decide)).trans (f54 64 (by decide))), show σ78 65 = σ 65 from ((f80 65 (by decide)).trans (f54 65 (by decide))), show (σ78 22 0).toInt = (σ 22 0).toInt from by omega]; exact hr12 nm)⟩ hP hS (lv_sub hl [0, 1, 2, 3] rfl)
  · obtain ⟨q231, k224, k225, k226, k227, k228, k229, k230⟩ := h67
    refine lv_pop hx hb dL_law_754 rfl ?_
    refine lv_aload_n hx hb dL_law_755 rfl (lv_at hl 1 rfl) ?_
    refine lv_aload_n hx hb dL_law_756 rfl (lv_at hl 3 rfl) ?_
    refine lv_iload_n hx hb dL_law_757 rfl (lv_at hl 0 rfl) ?_
    refine lv_iconst (v := 1) hx hb dL_law_758 (by decide) ?_
    refine lv_iadd hx hb dL_law_759 ?_
    refine jtopr ex48.symm ?_
    refine va_sld hx hb hX hbl hbA hS (jin tx48 (by omega) (by omega)) dL_law_760 ?_
    refine lv_aload_n hx hb dL_law_761 rfl (lv_at hl 3 rfl) ?_
    refine lv_iload_n hx hb dL_law_762 rfl (lv_at hl 0 rfl) ?_
    refine lv_iconst (v := 2) hx hb dL_law_763 (by decide) ?_
    refine lv_iadd hx hb dL_law_764 ?_
    refine jtopr ex50.symm ?_
    refine va_sld hx hb hX hbl hbA hS (jin tx50 (by omega) (by omega)) dL_law_765 ?_
    have I232 : jI101 σ52 := jI101_fr (congrFun (f54 55 (by decide)) 4) (congrFun (f54 55 (by decide)) 5) (f54 56 (by decide)) (f54 57 (by decide)) (f54 58 (by decide)) (f54 59 (by decide)) hI101
    have I233 : jI102 σ52 := jI102_fr (congrFun (f54 55 (by decide)) 6) (f54 60 (by decide)) (f54 61 (by decide)) hI102
    have z234 : (σ52 55 6).toInt = (σ 55 6).toInt := (congrArg Int32.toInt (show σ52 55 6 = (σ 55 6) from (congrFun (f54 55 (by decide)) 6)))
    have z235 : (σ52 55 5).toInt = (σ 55 5).toInt := (congrArg Int32.toInt (show σ52 55 5 = (σ 55 5) from (congrFun (f54 55 (by decide)) 5)))
    have z236 : (σ52 55 4).toInt = (σ 55 4).toInt := (congrArg Int32.toInt (show σ52 55 4 = (σ 55 4) from (congrFun (f54 55 (by decide)) 4)))
    refine jcallV (As := [.int (xs x48.toNatClampNeg), .int (xs x50.toNatClampNeg)]) (rest := []) ⟨hx, hb, hml, hown, hts⟩ hK hP hA hS hZ (c_X12_learn l D cI cL ad zz hJ σ52 τ (xs x48.toNatClampNeg) ((xs x48.toNatClampNeg).toInt) rfl (xs x50.toNatClampNeg) ((xs x50.toNatClampNeg).toInt) rfl I232 I233) cw_RL_92 (jc_55 cI cL ad σ52 τ) rfl ⟨Nat.le_of_ble_eq_true rfl, Nat.le_of_ble_eq_true rfl⟩ rfl rfl rfl hl.1 rfl (Nat.le_of_ble_eq_true rfl) dL_law_766 ⟨Nat.le_of_ble_eq_true rfl, Nat.le_of_ble_eq_true rfl⟩ (fun r238 σ237 τ237 H locs h237 hP hS => ?_)
    obtain ⟨rfl, f239, f240, I241, h237⟩ := h237
    obtain ⟨i243, i244, i245, w246, w247, w248, w249⟩ : (0 ≤ (σ237 55 5).toInt) ∧ ((σ237 55 5).toInt ≤ (σ237 55 4).toInt) ∧ ((σ237 55 4).toInt ≤ 40) ∧ (∀ k : Nat, k < 68 → (-200) ≤ (σ237 56 k).toInt ∧ (σ237 56 k).toInt ≤ 500) ∧ (∀ k : Nat, k < 40 → 0 ≤ (σ237 57 k).toInt ∧ (σ237 57 k).toInt ≤ 67) ∧ (∀ k : Nat, k < 40 → (-200) ≤ (σ237 58 k).toInt ∧ (σ237 58 k).toInt ≤ 500) ∧ (∀ k : Nat, k < 40 → (-200) ≤ (σ237 59 k).toInt ∧ (σ237 59 k).toInt ≤ 500) := id I241
    rcases h237 with h250 | h251
    · obtain ⟨q256, k252, k253, k254, k255⟩ := h250
      have q256 := q256.symm
      subst q256
      refine lv_pop hx hb dL_law_769 rfl ?_
      refine lv_goto (tgt := 1357) hx hb dL_law_770 (by decide) ?_
      obtain ⟨x257, ex257⟩ : ∃ y : Int32, y = x0 + 6 := ⟨_, rfl⟩
      have tx257 : x257.toInt = x0.toInt + 6 := (jadd ex257 rfl jz_6 (by omega) (by omega)).trans (by omega)
      refine lv_iinc (v := x257) (lv' := [(3, .int x257), (2, .ref (ad 55)), (1, .ref (ad 0)), (0, .ref b)]) hx hb dL_law_1357 hl (k := 0) rfl (by rw [ex257]; rfl) (by decide) rfl (fun ls hl => ?_)
      refine lv_goto (tgt := 18) hx hb dL_law_1360 (by decide) ?_
      have I258 : jI2 σ237 := jI2_fr (congrFun (f239 2 (by decide)) 0) (congrFun (f239 2 (by decide)) 1) (congrFun (f239 2 (by decide)) 2) (congrFun (f239 2 (by decide)) 3) (f239 6 (by decide)) I56
      have I259 : jI9 σ237 := jI9_fr ((congrFun (f239 9 (by decide)) 0).trans (congrFun (f54 9 (by decide)) 0)) ((f239 10 (by decide)).trans (f54 10 (by decide))) ((f239 11 (by decide)).trans (f54 11 (by decide))) hI9
      have I260 : jI12 σ237 := jI12_fr ((congrFun (f239 12 (by decide)) 0).trans (congrFun (f54 12 (by decide)) 0)) ((f239 13 (by decide)).trans (f54 13 (by decide))) hI12
      have I261 : jI16 σ237 := jI16_fr ((congrFun (f239 16 (by decide)) 0).trans (congrFun (f54 16 (by decide)) 0)) ((congrFun (f239 16 (by decide)) 1).trans (congrFun (f54 16 (by decide)) 1)) ((congrFun (f239 16 (by decide)) 2).trans (congrFun (f54 16 (by decide)) 2)) ((f239 17 (by decide)).trans (f54 17 (by decide))) hI16
      have I262 : jI18 σ237 := jI18_fr ((congrFun (f239 18 (by decide)) 0).trans (congrFun (f54 18 (by decide)) 0)) ((f239 19 (by decide)).trans (f54 19 (by decide))) hI18
      have I263 : jI22 σ237 := jI22_fr ((congrFun (f239 22 (by decide)) 0).trans (congrFun (f54 22 (by decide)) 0)) ((f239 23 (by decide)).trans (f54 23 (by decide))) hI22
      have I264 : jI31 σ237 := jI31_fr ((congrFun (f239 31 (by decide)) 8).trans (congrFun (f54 31 (by decide)) 8)) ((congrFun (f239 31 (by decide)) 10).trans (congrFun (f54 31 (by decide)) 10)) ((congrFun (f239 31 (by decide)) 11).trans (congrFun (f54 31 (by decide)) 11)) ((f239 33 (by decide)).trans (f54 33 (by decide))) ((f239 35 (by decide)).trans (f54 35 (by decide))) ((f239 36 (by decide)).trans (f54 36 (by decide))) hI31
      have I265 : jI38 σ237 := jI38_fr ((congrFun (f239 38 (by decide)) 0).trans (congrFun (f54 38 (by decide)) 0)) ((congrFun (f239 38 (by decide)) 1).trans (congrFun (f54 38 (by decide)) 1)) ((f239 39 (by decide)).trans (f54 39 (by decide))) hI38
      have I266 : jI43 σ237 := jI43_fr ((congrFun (f239 43 (by decide)) 8).trans (congrFun (f54 43 (by decide)) 8)) hI43
      have I267 : jI47 σ237 := jI47_fr ((congrFun (f239 47 (by decide)) 0).trans (congrFun (f54 47 (by decide)) 0)) ((f239 48 (by decide)).trans (f54 48 (by decide))) ((f239 49 (by decide)).trans (f54 49 (by decide))) hI47
      have I268 : jI50 σ237 := jI50_fr ((f239 52 (by decide)).trans (f54 52 (by decide))) hI50
      have I269 : jI0 σ237 := jI0_fr ((f239 1 (by decide)).trans (f54 1 (by decide))) hI0
      have I270 : jI26 σ237 := jI26_fr ((congrFun (f239 26 (by decide)) 6).trans (congrFun (f54 26 (by decide)) 6)) hI26
      have I271 : jI102 σ237 := jI102_fr (f240 6 (by decide)) (f239 60 (by decide)) (f239 61 (by decide)) I233
      have I272 : jI103 σ237 := jI103_fr ((f240 9 (by decide)).trans (congrFun (f54 55 (by decide)) 9)) hI103
      have I273 : jI104 σ237 := jI104_fr ((f240 10 (by decide)).trans (congrFun (f54 55 (by decide)) 10)) ((f240 12 (by decide)).trans (congrFun (f54 55 (by decide)) 12)) ((f240 13 (by decide)).trans (congrFun (f54 55 (by decide)) 13)) ((f239 62 (by decide)).trans (f54 62 (by decide))) ((f239 67 (by decide)).trans (f54 67 (by decide))) hI104
      have I274 : jI105 σ237 := jI105_fr ((f240 15 (by decide)).trans (congrFun (f54 55 (by decide)) 15)) ((f239 65 (by decide)).trans (f54 65 (by decide))) hI105
      have I275 : jI106 σ237 := jI106_fr ((f240 32 (by decide)).trans (congrFun (f54 55 (by decide)) 32)) ((f239 70 (by decide)).trans (f54 70 (by decide))) ((f239 71 (by decide)).trans (f54 71 (by decide))) ((f239 72 (by decide)).trans (f54 72 (by decide))) hI106
      have I276 : jI107 σ237 := jI107_fr ((f240 12 (by decide)).trans (congrFun (f54 55 (by decide)) 12)) ((f240 47 (by decide)).trans (congrFun (f54 55 (by decide)) 47)) ((f239 80 (by decide)).trans (f54 80 (by decide))) hI107
      have I277 : jI109 σ237 := jI109_fr ((f240 50 (by decide)).trans (congrFun (f54 55 (by decide)) 50)) hI109
      have I278 : jI110 σ237 := jI110_fr ((f239 86 (by decide)).trans (f54 86 (by decide))) ((f239 87 (by decide)).trans (f54 87 (by decide))) hI110
      have I279 : jI111 σ237 := jI111_fr ((f239 79 (by decide)).trans (f54 79 (by decide))) hI111
      have I280 : jI119 σ237 := jI119_fr ((f239 68 (by decide)).trans (f54 68 (by decide))) hI119
      have p281 : jKept σ237 := jKept.fr ((f239 75 (by decide)).trans (f54 75 (by decide))) ((f239 76 (by decide)).trans (f54 76 (by decide))) ((f239 77 (by decide)).trans (f54 77 (by decide))) hs_jKept
      have p282 : jBook σ237 := jBook.fr ((f240 47 (by decide)).trans (congrFun (f54 55 (by decide)) 47)) ((f240 10 (by decide)).trans (congrFun (f54 55 (by decide)) 10)) ((f239 81 (by decide)).trans (f54 81 (by decide))) hs_jBook
      have p283 : jNd12 σ237 := jNd12.fr ((congrFun (f239 12 (by decide)) 0).trans (congrFun (f54 12 (by decide)) 0)) ((congrFun (f239 12 (by decide)) 1).trans (congrFun (f54 12 (by decide)) 1)) ((f239 13 (by decide)).trans (f54 13 (by decide))) hs_jNd12
      have p284 : jN67 σ237 := jN67.fr ((f239 24 (by decide)).trans (f54 24 (by decide))) hs_jN67
      have p285 : jBl σ237 := jBl.fr ((congrFun (f239 22 (by decide)) 0).trans (congrFun (f54 22 (by decide)) 0)) ((congrFun (f239 22 (by decide)) 1).trans (congrFun (f54 22 (by decide)) 1)) ((f239 23 (by decide)).trans (f54 23 (by decide))) ((congrFun (f239 26 (by decide)) 6).trans (congrFun (f54 26 (by decide)) 6)) ((congrFun (f239 26 (by decide)) 7).trans (congrFun (f54 26 (by decide)) 7)) ((f239 29 (by decide)).trans (f54 29 (by decide))) ((f239 30 (by decide)).trans (f54 30 (by decide))) hs_jBl
      have p286 : jKb σ237 := jKb.fr ((congrFun (f239 31 (by decide)) 8).trans (congrFun (f54 31 (by decide)) 8)) ((congrFun (f239 31 (by decide)) 11).trans (congrFun (f54 31 (by decide)) 11)) ((f239 32 (by decide)).trans (f54 32 (by decide))) hs_jKb
      have p287 : jTR σ237 := jTR.fr ((f239 64 (by decide)).trans (f54 64 (by decide))) ((f239 65 (by decide)).trans (f54 65 (by decide))) hs_jTR
      have p288 : jKh σ237 := jKh.fr ((congrFun (f239 31 (by decide)) 8).trans (congrFun (f54 31 (by decide)) 8)) ((f239 32 (by decide)).trans (f54 32 (by decide))) ((f239 36 (by decide)).trans (f54 36 (by decide))) ((f239 37 (by decide)).trans (f54 37 (by decide))) hs_jKh
      have p289 : jKg σ237 := jKg.fr ((congrFun (f239 31 (by decide)) 8).trans (congrFun (f54 31 (by decide)) 8)) ((congrFun (f239 31 (by decide)) 9).trans (congrFun (f54 31 (by decide)) 9)) ((congrFun (f239 31 (by decide)) 11).trans (congrFun (f54 31 (by decide)) 11)) ((congrFun (f239 31 (by decide)) 12).trans (congrFun (f54 31 (by decide)) 12)) ((f239 32 (by decide)).trans (f54 32 (by decide))) ((f239 33 (by decide)).trans (f54 33 (by decide))) hs_jKg
      have z290 : (σ237 2 0).toInt = (σ 2 0).toInt := (congrArg Int32.toInt (show σ237 2 0 = (σ 2 0) from ((congrFun (f239 2 (by decide)) 0).trans (f55 0 (by decide)))))
      have z291 : (σ237 55 6).toInt = (σ 55 6).toInt := (congrArg Int32.toInt (show σ237 55 6 = (σ 55 6) from ((f240 6 (by decide)).trans (congrFun (f54 55 (by decide)) 6))))
      have z292 : (σ237 2 2).toInt = (σ52 2 2).toInt := (congrArg Int32.toInt (show σ237 2 2 = (σ52 2 2) from (congrFun (f239 2 (by decide)) 2)))
      have z293 : (σ237 2 3).toInt = (σ52 2 3).toInt := (congrArg Int32.toInt (show σ237 2 3 = (σ52 2 3) from (congrFun (f239 2 (by decide)) 3)))
      have z294 : (σ237 9 0).toInt = (σ 9 0).toInt := (congrArg Int32.toInt (show σ237 9 0 = (σ 9 0) from ((congrFun (f239 9 (by decide)) 0).trans (congrFun (f54 9 (by decide)) 0))))
      have z295 : (σ237 55 15).toInt = (σ 55 15).toInt := (congrArg Int32.toInt (show σ237 55 15 = (σ 55 15) from ((f240 15 (by decide)).trans (congrFun (f54 55 (by decide)) 15))))
      have z296 : (σ237 16 0).toInt = (σ 16 0).toInt := (congrArg Int32.toInt (show σ237 16 0 = (σ 16 0) from ((congrFun (f239 16 (by decide)) 0).trans (congrFun (f54 16 (by decide)) 0))))
      have z297 : (σ237 55 10).toInt = (σ 55 10).toInt := (congrArg Int32.toInt (show σ237 55 10 = (σ 55 10) from ((f240 10 (by decide)).trans (congrFun (f54 55 (by decide)) 10))))
      have z298 : (σ237 16 1).toInt = (σ 16 1).toInt := (congrArg Int32.toInt (show σ237 16 1 = (σ 16 1) from ((congrFun (f239 16 (by decide)) 1).trans (congrFun (f54 16 (by decide)) 1))))
      have z299 : (σ237 55 12).toInt = (σ 55 12).toInt := (congrArg Int32.toInt (show σ237 55 12 = (σ 55 12) from ((f240 12 (by decide)).trans (congrFun (f54 55 (by decide)) 12))))
      have z300 : (σ237 16 2).toInt = (σ 16 2).toInt := (congrArg Int32.toInt (show σ237 16 2 = (σ 16 2) from ((congrFun (f239 16 (by decide)) 2).trans (congrFun (f54 16 (by decide)) 2))))
      have z301 : (σ237 55 13).toInt = (σ 55 13).toInt := (congrArg Int32.toInt (show σ237 55 13 = (σ 55 13) from ((f240 13 (by decide)).trans (congrFun (f54 55 (by decide)) 13))))
      have z302 : (σ237 38 0).toInt = (σ 38 0).toInt := (congrArg Int32.toInt (show σ237 38 0 = (σ 38 0) from ((congrFun (f239 38 (by decide)) 0).trans (congrFun (f54 38 (by decide)) 0))))
      have z303 : (σ237 55 32).toInt = (σ 55 32).toInt := (congrArg Int32.toInt (show σ237 55 32 = (σ 55 32) from ((f240 32 (by decide)).trans (congrFun (f54 55 (by decide)) 32))))
      have z304 : (σ237 38 1).toInt = (σ 38 1).toInt := (congrArg Int32.toInt (show σ237 38 1 = (σ 38 1) from ((congrFun (f239 38 (by decide)) 1).trans (congrFun (f54 38 (by decide)) 1))))
      have z305 : (σ237 55 55).toInt = (σ 55 55).toInt := (congrArg Int32.toInt (show σ237 55 55 = (σ 55 55) from ((f240 55 (by decide)).trans (congrFun (f54 55 (by decide)) 55))))
      have z306 : (σ237 47 0).toInt = (σ 47 0).toInt := (congrArg Int32.toInt (show σ237 47 0 = (σ 47 0) from ((congrFun (f239 47 (by decide)) 0).trans (congrFun (f54 47 (by decide)) 0))))
      have z307 : (σ237 55 47).toInt = (σ 55 47).toInt := (congrArg Int32.toInt (show σ237 55 47 = (σ 55 47) from ((f240 47 (by decide)).trans (congrFun (f54 55 (by decide)) 47))))
      have z308 : (σ237 55 30).toInt = (σ 55 30).toInt := (congrArg Int32.toInt (show σ237 55 30 = (σ 55 30) from ((f240 30 (by decide)).trans (congrFun (f54 55 (by decide)) 30))))
      have z309 : (σ237 55 31).toInt = (σ 55 31).toInt := (congrArg Int32.toInt (show σ237 55 31 = (σ 55 31) from ((f240 31 (by decide)).trans (congrFun (f54 55 (by decide)) 31))))
      have z310 : (σ237 2 1).toInt = (σ 2 1).toInt := (congrArg Int32.toInt (show σ237 2 1 = (σ 2 1) from ((congrFun (f239 2 (by decide)) 1).trans (f55 1 (by decide)))))
      have z311 : (σ237 55 9).toInt = (σ 55 9).toInt := (congrArg Int32.toInt (show σ237 55 9 = (σ 55 9) from ((f240 9 (by decide)).trans (congrFun (f54 55 (by decide)) 9))))
      have z312 : (σ237 26 6).toInt = (σ 26 6).toInt := (congrArg Int32.toInt (show σ237 26 6 = (σ 26 6) from ((congrFun (f239 26 (by decide)) 6).trans (congrFun (f54 26 (by decide)) 6))))
      have z314 : (σ237 18 0).toInt = (σ 18 0).toInt := (congrArg Int32.toInt (show σ237 18 0 = (σ 18 0) from ((congrFun (f239 18 (by decide)) 0).trans (congrFun (f54 18 (by decide)) 0))))
      have z315 : (σ237 22 0).toInt = (σ 22 0).toInt := (congrArg Int32.toInt (show σ237 22 0 = (σ 22 0) from ((congrFun (f239 22 (by decide)) 0).trans (congrFun (f54 22 (by decide)) 0))))
      exact ih x257 σ237 τ _ _ ls (by have h9 := tx257; omega) ⟨I258, I259, I260, I261, I262, I263, I264, I265, I266, I267, I268, I269, I270, I241, I271, I272, I273, I274, I275, I276, I277, I278, I279, I280, p281, p282, p283, p284, p285, p286, p287, p288, p289, (by omega), (by omega), (by omega), (by omega), (by omega), (by omega), (by omega), (by omega), (by omega), (by omega), (by omega), (by omega), (by omega), (by have h9 := tx257; omega), (False.elim (by omega)), (False.elim (by omega)), (show jTp (σ237 10) (σ237 63) (σ237 55 15).toInt by rw [show σ237 10 = σ 10 from ((f239 10 (by decide)).trans (f54 10 (by decide))), show σ237 63 = σ 63 from ((f239 63 (by decide)).trans (f54 63 (by decide)))]; exact hr2.le (by omega)), (show jSo (σ237 17) (σ237 62) (σ237 16 0).toInt by rw [show σ237 17 = σ 17 from ((f239 17 (by decide)).trans (f54 17 (by decide))), show σ237 62 = σ 62 from ((f239 62 (by decide)).trans (f54 62 (by decide))), show (σ237 16 0).toInt = (σ 16 0).toInt from by omega]; exact hr3), (show jShP (σ237 51) (σ237 52) (σ237 53) (σ237 86) (σ237 87) (σ237 55 32).toInt by rw [show σ237 51 = σ 51 from ((f239 51 (by decide)).trans (f54 51 (by decide))), show σ237 52 = σ 52 from ((f239 52 (by decide)).trans (f54 52 (by decide))), show σ237 53 = σ 53 from ((f239 53 (by decide)).trans (f54 53 (by decide))), show σ237 86 = σ 86 from ((f239 86 (by decide)).trans (f54 86 (by decide))), show σ237 87 = σ 87 from ((f239 87 (by decide)).trans (f54 87 (by decide)))]; exact (hr4.up (by omega) (by omega))), (show jEl (σ237 51) (σ237 52) (τ 54) (τ 88) by rw [show σ237 51 = σ 51 from ((f239 51 (by decide)).trans (f54 51 (by decide))), show σ237 52 = σ 52 from ((f239 52 (by decide)).trans (f54 52 (by decide)))]; exact hr5), (show jByP (σ237 51) (σ237 52) (τ 54) by rw [show σ237 51 = σ 51 from ((f239 51 (by decide)).trans (f54 51 (by decide))), show σ237 52 = σ 52 from ((f239 52 (by decide)).trans (f54 52 (by decide)))]; exact hr6), (show jBk (σ237 48) (σ237 80) (σ237 49) (σ237 81) (σ237 55 47).toInt by rw [show σ237 48 = σ 48 from ((f239 48 (by decide)).trans (f54 48 (by decide))), show σ237 49 = σ 49 from ((f239 49 (by decide)).trans (f54 49 (by decide))), show σ237 80 = σ 80 from ((f239 80 (by decide)).trans (f54 80 (by decide))), show σ237 81 = σ 81 from ((f239 81 (by decide)).trans (f54 81 (by decide))), show (σ237 55 47).toInt = (σ 55 47).toInt from by omega]; exact hr7), (show jKd (σ237 39) (σ237 70) (σ237 55 32).toInt by rw [show σ237 39 = σ 39 from ((f239 39 (by decide)).trans (f54 39 (by decide))), show σ237 70 = σ 70 from ((f239 70 (by decide)).trans (f54 70 (by decide))), show (σ237 55 32).toInt = (σ 55 32).toInt from by omega]; exact hr8), (show jTt (σ237 42) (σ237 85) (σ237 55 55).toInt by rw [show σ237 42 = σ 42 from ((f239 42 (by decide)).trans (f54 42 (by decide))), show σ237 85 = σ 85 from ((f239 85 (by decide)).trans (f54 85 (by decide))), show (σ237 55 55).toInt = (σ 55 55).toInt from by omega]; exact hr9), (fun k hk => by rw [show σ237 4 = σ 4 from ((f239 4 (by decide)).trans (f54 4 (by decide))), show σ237 5 = σ 5 from ((f239 5 (by decide)).trans (f54 5 (by decide))), show σ237 60 = σ 60 from ((f239 60 (by decide)).trans (f54 60 (by decide))), show σ237 61 = σ 61 from ((f239 61 (by decide)).trans (f54 61 (by decide)))]; exact hr10 k (by omega)), (fun nm => by rw [show σ237 19 = σ 19 from ((f239 19 (by decide)).trans (f54 19 (by decide))), show σ237 64 = σ 64 from ((f239 64 (by decide)).trans (f54 64 (by decide))), show σ237 65 = σ 65 from ((f239 65 (by decide)).trans (f54 65 (by decide))), show (σ237 18 0).toInt = (σ 18 0).toInt from by omega]; exact hr11 nm), (fun nm => by rw [show σ237 23 = σ 23 from ((f239 23 (by decide)).trans (f54 23 (by decide))), show σ237 64 = σ 64 from ((f239 64 (by decide)).trans (f54 64 (by decide))), show σ237 65 = σ 65 from ((f239 65 (by decide)).trans (f54 65 (by decide))), show (σ237 22 0).toInt = (σ 22 0).toInt from by omega]; exact hr12 nm)⟩ hP hS (lv_sub hl [0, 1, 2, 3] rfl)
    · obtain ⟨q323, k316, k317, k318, k319, k320, k321, k322⟩ := h251
      refine lv_pop hx hb dL_law_769 rfl ?_
      refine lv_goto (tgt := 1357) hx hb dL_law_770 (by decide) ?_
      obtain ⟨x324, ex324⟩ : ∃ y : Int32, y = x0 + 6 := ⟨_, rfl⟩
      have tx324 : x324.toInt = x0.toInt + 6 := (jadd ex324 rfl jz_6 (by omega) (by omega)).trans (by omega)
      refine lv_iinc (v := x324) (lv' := [(3, .int x324), (2, .ref (ad 55)), (1, .ref (ad 0)), (0, .ref b)]) hx hb dL_law_1357 hl (k := 0) rfl (by rw [ex324]; rfl) (by decide) rfl (fun ls hl => ?_)
      refine lv_goto (tgt := 18) hx hb dL_law_1360 (by decide) ?_
      have I325 : jI2 σ237 := jI2_fr (congrFun (f239 2 (by decide)) 0) (congrFun (f239 2 (by decide)) 1) (congrFun (f239 2 (by decide)) 2) (congrFun (f239 2 (by decide)) 3) (f239 6 (by decide)) I56
      have I326 : jI9 σ237 := jI9_fr ((congrFun (f239 9 (by decide)) 0).trans (congrFun (f54 9 (by decide)) 0)) ((f239 10 (by decide)).trans (f54 10 (by decide))) ((f239 11 (by decide)).trans (f54 11 (by decide))) hI9
      have I327 : jI12 σ237 := jI12_fr ((congrFun (f239 12 (by decide)) 0).trans (congrFun (f54 12 (by decide)) 0)) ((f239 13 (by decide)).trans (f54 13 (by decide))) hI12
      have I328 : jI16 σ237 := jI16_fr ((congrFun (f239 16 (by decide)) 0).trans (congrFun (f54 16 (by decide)) 0)) ((congrFun (f239 16 (by decide)) 1).trans (congrFun (f54 16 (by decide)) 1)) ((congrFun (f239 16 (by decide)) 2).trans (congrFun (f54 16 (by decide)) 2)) ((f239 17 (by decide)).trans (f54 17 (by decide))) hI16
      have I329 : jI18 σ237 := jI18_fr ((congrFun (f239 18 (by decide)) 0).trans (congrFun (f54 18 (by decide)) 0)) ((f239 19 (by decide)).trans (f54 19 (by decide))) hI18
      have I330 : jI22 σ237 := jI22_fr ((congrFun (f239 22 (by decide)) 0).trans (congrFun (f54 22 (by decide)) 0)) ((f239 23 (by decide)).trans (f54 23 (by decide))) hI22
      have I331 : jI31 σ237 := jI31_fr ((congrFun (f239 31 (by decide)) 8).trans (congrFun (f54 31 (by decide)) 8)) ((congrFun (f239 31 (by decide)) 10).trans (congrFun (f54 31 (by decide)) 10)) ((congrFun (f239 31 (by decide)) 11).trans (congrFun (f54 31 (by decide)) 11)) ((f239 33 (by decide)).trans (f54 33 (by decide))) ((f239 35 (by decide)).trans (f54 35 (by decide))) ((f239 36 (by decide)).trans (f54 36 (by decide))) hI31
      have I332 : jI38 σ237 := jI38_fr ((congrFun (f239 38 (by decide)) 0).trans (congrFun (f54 38 (by decide)) 0)) ((congrFun (f239 38 (by decide)) 1).trans (congrFun (f54 38 (by decide)) 1)) ((f239 39 (by decide)).trans (f54 39 (by decide))) hI38
      have I333 : jI43 σ237 := jI43_fr ((congrFun (f239 43 (by decide)) 8).trans (congrFun (f54 43 (by decide)) 8)) hI43
      have I334 : jI47 σ237 := jI47_fr ((congrFun (f239 47 (by decide)) 0).trans (congrFun (f54 47 (by decide)) 0)) ((f239 48 (by decide)).trans (f54 48 (by decide))) ((f239 49 (by decide)).trans (f54 49 (by decide))) hI47
      have I335 : jI50 σ237 := jI50_fr ((f239 52 (by decide)).trans (f54 52 (by decide))) hI50
      have I336 : jI0 σ237 := jI0_fr ((f239 1 (by decide)).trans (f54 1 (by decide))) hI0
      have I337 : jI26 σ237 := jI26_fr ((congrFun (f239 26 (by decide)) 6).trans (congrFun (f54 26 (by decide)) 6)) hI26
      have I338 : jI102 σ237 := jI102_fr (f240 6 (by decide)) (f239 60 (by decide)) (f239 61 (by decide)) I233
      have I339 : jI103 σ237 := jI103_fr ((f240 9 (by decide)).trans (congrFun (f54 55 (by decide)) 9)) hI103
      have I340 : jI104 σ237 := jI104_fr ((f240 10 (by decide)).trans (congrFun (f54 55 (by decide)) 10)) ((f240 12 (by decide)).trans (congrFun (f54 55 (by decide)) 12)) ((f240 13 (by decide)).trans (congrFun (f54 55 (by decide)) 13)) ((f239 62 (by decide)).trans (f54 62 (by decide))) ((f239 67 (by decide)).trans (f54 67 (by decide))) hI104
      have I341 : jI105 σ237 := jI105_fr ((f240 15 (by decide)).trans (congrFun (f54 55 (by decide)) 15)) ((f239 65 (by decide)).trans (f54 65 (by decide))) hI105
      have I342 : jI106 σ237 := jI106_fr ((f240 32 (by decide)).trans (congrFun (f54 55 (by decide)) 32)) ((f239 70 (by decide)).trans (f54 70 (by decide))) ((f239 71 (by decide)).trans (f54 71 (by decide))) ((f239 72 (by decide)).trans (f54 72 (by decide))) hI106
      have I343 : jI107 σ237 := jI107_fr ((f240 12 (by decide)).trans (congrFun (f54 55 (by decide)) 12)) ((f240 47 (by decide)).trans (congrFun (f54 55 (by decide)) 47)) ((f239 80 (by decide)).trans (f54 80 (by decide))) hI107
      have I344 : jI109 σ237 := jI109_fr ((f240 50 (by decide)).trans (congrFun (f54 55 (by decide)) 50)) hI109
      have I345 : jI110 σ237 := jI110_fr ((f239 86 (by decide)).trans (f54 86 (by decide))) ((f239 87 (by decide)).trans (f54 87 (by decide))) hI110
      have I346 : jI111 σ237 := jI111_fr ((f239 79 (by decide)).trans (f54 79 (by decide))) hI111
      have I347 : jI119 σ237 := jI119_fr ((f239 68 (by decide)).trans (f54 68 (by decide))) hI119
      have p348 : jKept σ237 := jKept.fr ((f239 75 (by decide)).trans (f54 75 (by decide))) ((f239 76 (by decide)).trans (f54 76 (by decide))) ((f239 77 (by decide)).trans (f54 77 (by decide))) hs_jKept
      have p349 : jBook σ237 := jBook.fr ((f240 47 (by decide)).trans (congrFun (f54 55 (by decide)) 47)) ((f240 10 (by decide)).trans (congrFun (f54 55 (by decide)) 10)) ((f239 81 (by decide)).trans (f54 81 (by decide))) hs_jBook
      have p350 : jNd12 σ237 := jNd12.fr ((congrFun (f239 12 (by decide)) 0).trans (congrFun (f54 12 (by decide)) 0)) ((congrFun (f239 12 (by decide)) 1).trans (congrFun (f54 12 (by decide)) 1)) ((f239 13 (by decide)).trans (f54 13 (by decide))) hs_jNd12
      have p351 : jN67 σ237 := jN67.fr ((f239 24 (by decide)).trans (f54 24 (by decide))) hs_jN67
      have p352 : jBl σ237 := jBl.fr ((congrFun (f239 22 (by decide)) 0).trans (congrFun (f54 22 (by decide)) 0)) ((congrFun (f239 22 (by decide)) 1).trans (congrFun (f54 22 (by decide)) 1)) ((f239 23 (by decide)).trans (f54 23 (by decide))) ((congrFun (f239 26 (by decide)) 6).trans (congrFun (f54 26 (by decide)) 6)) ((congrFun (f239 26 (by decide)) 7).trans (congrFun (f54 26 (by decide)) 7)) ((f239 29 (by decide)).trans (f54 29 (by decide))) ((f239 30 (by decide)).trans (f54 30 (by decide))) hs_jBl
      have p353 : jKb σ237 := jKb.fr ((congrFun (f239 31 (by decide)) 8).trans (congrFun (f54 31 (by decide)) 8)) ((congrFun (f239 31 (by decide)) 11).trans (congrFun (f54 31 (by decide)) 11)) ((f239 32 (by decide)).trans (f54 32 (by decide))) hs_jKb
      have p354 : jTR σ237 := jTR.fr ((f239 64 (by decide)).trans (f54 64 (by decide))) ((f239 65 (by decide)).trans (f54 65 (by decide))) hs_jTR
      have p355 : jKh σ237 := jKh.fr ((congrFun (f239 31 (by decide)) 8).trans (congrFun (f54 31 (by decide)) 8)) ((f239 32 (by decide)).trans (f54 32 (by decide))) ((f239 36 (by decide)).trans (f54 36 (by decide))) ((f239 37 (by decide)).trans (f54 37 (by decide))) hs_jKh
      have p356 : jKg σ237 := jKg.fr ((congrFun (f239 31 (by decide)) 8).trans (congrFun (f54 31 (by decide)) 8)) ((congrFun (f239 31 (by decide)) 9).trans (congrFun (f54 31 (by decide)) 9)) ((congrFun (f239 31 (by decide)) 11).trans (congrFun (f54 31 (by decide)) 11)) ((congrFun (f239 31 (by decide)) 12).trans (congrFun (f54 31 (by decide)) 12)) ((f239 32 (by decide)).trans (f54 32 (by decide))) ((f239 33 (by decide)).trans (f54 33 (by decide))) hs_jKg
      have z357 : (σ237 2 0).toInt = (σ 2 0).toInt := (congrArg Int32.toInt (show σ237 2 0 = (σ 2 0) from ((congrFun (f239 2 (by decide)) 0).trans (f55 0 (by decide)))))
      have z358 : (σ237 55 6).toInt = (σ 55 6).toInt := (congrArg Int32.toInt (show σ237 55 6 = (σ 55 6) from ((f240 6 (by decide)).trans (congrFun (f54 55 (by decide)) 6))))
      have z359 : (σ237 2 2).toInt = (σ52 2 2).toInt := (congrArg Int32.toInt (show σ237 2 2 = (σ52 2 2) from (congrFun (f239 2 (by decide)) 2)))
      have z360 : (σ237 2 3).toInt = (σ52 2 3).toInt := (congrArg Int32.toInt (show σ237 2 3 = (σ52 2 3) from (congrFun (f239 2 (by decide)) 3)))
      have z361 : (σ237 9 0).toInt = (σ 9 0).toInt := (congrArg Int32.toInt (show σ237 9 0 = (σ 9 0) from ((congrFun (f239 9 (by decide)) 0).trans (congrFun (f54 9 (by decide)) 0))))
      have z362 : (σ237 55 15).toInt = (σ 55 15).toInt := (congrArg Int32.toInt (show σ237 55 15 = (σ 55 15) from ((f240 15 (by decide)).trans (congrFun (f54 55 (by decide)) 15))))
      have z363 : (σ237 16 0).toInt = (σ 16 0).toInt := (congrArg Int32.toInt (show σ237 16 0 = (σ 16 0) from ((congrFun (f239 16 (by decide)) 0).trans (congrFun (f54 16 (by decide)) 0))))
      have z364 : (σ237 55 10).toInt = (σ 55 10).toInt := (congrArg Int32.toInt (show σ237 55 10 = (σ 55 10) from ((f240 10 (by decide)).trans (congrFun (f54 55 (by decide)) 10))))
      have z365 : (σ237 16 1).toInt = (σ 16 1).toInt := (congrArg Int32.toInt (show σ237 16 1 = (σ 16 1) from ((congrFun (f239 16 (by decide)) 1).trans (congrFun (f54 16 (by decide)) 1))))
      have z366 : (σ237 55 12).toInt = (σ 55 12).toInt := (congrArg Int32.toInt (show σ237 55 12 = (σ 55 12) from ((f240 12 (by decide)).trans (congrFun (f54 55 (by decide)) 12))))
      have z367 : (σ237 16 2).toInt = (σ 16 2).toInt := (congrArg Int32.toInt (show σ237 16 2 = (σ 16 2) from ((congrFun (f239 16 (by decide)) 2).trans (congrFun (f54 16 (by decide)) 2))))
      have z368 : (σ237 55 13).toInt = (σ 55 13).toInt := (congrArg Int32.toInt (show σ237 55 13 = (σ 55 13) from ((f240 13 (by decide)).trans (congrFun (f54 55 (by decide)) 13))))
      have z369 : (σ237 38 0).toInt = (σ 38 0).toInt := (congrArg Int32.toInt (show σ237 38 0 = (σ 38 0) from ((congrFun (f239 38 (by decide)) 0).trans (congrFun (f54 38 (by decide)) 0))))
      have z370 : (σ237 55 32).toInt = (σ 55 32).toInt := (congrArg Int32.toInt (show σ237 55 32 = (σ 55 32) from ((f240 32 (by decide)).trans (congrFun (f54 55 (by decide)) 32))))
      have z371 : (σ237 38 1).toInt = (σ 38 1).toInt := (congrArg Int32.toInt (show σ237 38 1 = (σ 38 1) from ((congrFun (f239 38 (by decide)) 1).trans (congrFun (f54 38 (by decide)) 1))))
      have z372 : (σ237 55 55).toInt = (σ 55 55).toInt := (congrArg Int32.toInt (show σ237 55 55 = (σ 55 55) from ((f240 55 (by decide)).trans (congrFun (f54 55 (by decide)) 55))))
      have z373 : (σ237 47 0).toInt = (σ 47 0).toInt := (congrArg Int32.toInt (show σ237 47 0 = (σ 47 0) from ((congrFun (f239 47 (by decide)) 0).trans (congrFun (f54 47 (by decide)) 0))))
      have z374 : (σ237 55 47).toInt = (σ 55 47).toInt := (congrArg Int32.toInt (show σ237 55 47 = (σ 55 47) from ((f240 47 (by decide)).trans (congrFun (f54 55 (by decide)) 47))))
      have z375 : (σ237 55 30).toInt = (σ 55 30).toInt := (congrArg Int32.toInt (show σ237 55 30 = (σ 55 30) from ((f240 30 (by decide)).trans (congrFun (f54 55 (by decide)) 30))))
      have z376 : (σ237 55 31).toInt = (σ 55 31).toInt := (congrArg Int32.toInt (show σ237 55 31 = (σ 55 31) from ((f240 31 (by decide)).trans (congrFun (f54 55 (by decide)) 31))))
      have z377 : (σ237 2 1).toInt = (σ 2 1).toInt := (congrArg Int32.toInt (show σ237 2 1 = (σ 2 1) from ((congrFun (f239 2 (by decide)) 1).trans (f55 1 (by decide)))))
      have z378 : (σ237 55 9).toInt = (σ 55 9).toInt := (congrArg Int32.toInt (show σ237 55 9 = (σ 55 9) from ((f240 9 (by decide)).trans (congrFun (f54 55 (by decide)) 9))))
      have z379 : (σ237 26 6).toInt = (σ 26 6).toInt := (congrArg Int32.toInt (show σ237 26 6 = (σ 26 6) from ((congrFun (f239 26 (by decide)) 6).trans (congrFun (f54 26 (by decide)) 6))))
      obtain ⟨q380, w382, e384, c386⟩ := k230
      obtain ⟨q381, w383, e385, c387⟩ := k322
      rw [show σ52 56 = σ 56 from (f54 56 (by decide)), show σ52 57 = σ 57 from (f54 57 (by decide)), show σ52 58 = σ 58 from (f54 58 (by decide)), show σ52 59 = σ 59 from (f54 59 (by decide)), show r238 = r53 from jsame (rfl : r238.toInt = r238.toInt) (rfl : r53.toInt = r53.toInt) (by omega), show (σ52 55 4).toInt = (σ 55 4).toInt from by omega] at c387
      have k388 := hr0.chg (by omega) (by omega) c386 c387 (by omega) (by omega) (by omega) (by omega)
      have e384 := k388.2.1
      have e385 := k388.2.2
      have z391 : (σ237 18 0).toInt = (σ 18 0).toInt := (congrArg Int32.toInt (show σ237 18 0 = (σ 18 0) from ((congrFun (f239 18 (by decide)) 0).trans (congrFun (f54 18 (by decide)) 0))))
      have z392 : (σ237 22 0).toInt = (σ 22 0).toInt := (congrArg Int32.toInt (show σ237 22 0 = (σ 22 0) from ((congrFun (f239 22 (by decide)) 0).trans (congrFun (f54 22 (by decide)) 0))))
      exact ih x324 σ237 τ _ _ ls (by have h9 := tx324; omega) ⟨I325, I326, I327, I328, I329, I330, I331, I332, I333, I334, I335, I336, I337, I241, I338, I339, I340, I341, I342, I343, I344, I345, I346, I347, p348, p349, p350, p351, p352, p353, p354, p355, p356, (by omega), (by omega), (by omega), (by omega), (by omega), (by omega), (by omega), (by omega), (by omega), (by omega), (by omega), (by omega), (by omega), (by have h9 := tx324; omega), (show jNumP (σ237 3) (σ237 56) (σ237 6) (σ237 57) (σ237 7) (σ237 58) (σ237 8) (σ237 59) (σ237 55 6).toInt (σ237 55 4).toInt by rw [show σ237 3 = σ52 3 from (f239 3 (by decide)), show σ237 6 = σ52 6 from (f239 6 (by decide)), show σ237 7 = σ52 7 from (f239 7 (by decide)), show σ237 8 = σ52 8 from (f239 8 (by decide)), show (σ237 55 6).toInt = (σ 55 6).toInt from by omega]; exact k388.1), (hr1.chg c387 (by omega) (by omega) (fun x y => by omega)), (show jTp (σ237 10) (σ237 63) (σ237 55 15).toInt by rw [show σ237 10 = σ 10 from ((f239 10 (by decide)).trans (f54 10 (by decide))), show σ237 63 = σ 63 from ((f239 63 (by decide)).trans (f54 63 (by decide)))]; exact hr2.le (by omega)), (show jSo (σ237 17) (σ237 62) (σ237 16 0).toInt by rw [show σ237 17 = σ 17 from ((f239 17 (by decide)).trans (f54 17 (by decide))), show σ237 62 = σ 62 from ((f239 62 (by decide)).trans (f54 62 (by decide))), show (σ237 16 0).toInt = (σ 16 0).toInt from by omega]; exact hr3), (show jShP (σ237 51) (σ237 52) (σ237 53) (σ237 86) (σ237 87) (σ237 55 32).toInt by rw [show σ237 51 = σ 51 from ((f239 51 (by decide)).trans (f54 51 (by decide))), show σ237 52 = σ 52 from ((f239 52 (by decide)).trans (f54 52 (by decide))), show σ237 53 = σ 53 from ((f239 53 (by decide)).trans (f54 53 (by decide))), show σ237 86 = σ 86 from ((f239 86 (by decide)).trans (f54 86 (by decide))), show σ237 87 = σ 87 from ((f239 87 (by decide)).trans (f54 87 (by decide)))]; exact (hr4.up (by omega) (by omega))), (show jEl (σ237 51) (σ237 52) (τ 54) (τ 88) by rw [show σ237 51 = σ 51 from ((f239 51 (by decide)).trans (f54 51 (by decide))), show σ237 52 = σ 52 from ((f239 52 (by decide)).trans (f54 52 (by decide)))]; exact hr5), (show jByP (σ237 51) (σ237 52) (τ 54) by rw [show σ237 51 = σ 51 from ((f239 51 (by decide)).trans (f54 51 (by decide))), show σ237 52 = σ 52 from ((f239 52 (by decide)).trans (f54 52 (by decide)))]; exact hr6), (show jBk (σ237 48) (σ237 80) (σ237 49) (σ237 81) (σ237 55 47).toInt by rw [show σ237 48 = σ 48 from ((f239 48 (by decide)).trans (f54 48 (by decide))), show σ237 49 = σ 49 from ((f239 49 (by decide)).trans (f54 49 (by decide))), show σ237 80 = σ 80 from ((f239 80 (by decide)).trans (f54 80 (by decide))), show σ237 81 = σ 81 from ((f239 81 (by decide)).trans (f54 81 (by decide))), show (σ237 55 47).toInt = (σ 55 47).toInt from by omega]; exact hr7), (show jKd (σ237 39) (σ237 70) (σ237 55 32).toInt by rw [show σ237 39 = σ 39 from ((f239 39 (by decide)).trans (f54 39 (by decide))), show σ237 70 = σ 70 from ((f239 70 (by decide)).trans (f54 70 (by decide))), show (σ237 55 32).toInt = (σ 55 32).toInt from by omega]; exact hr8), (show jTt (σ237 42) (σ237 85) (σ237 55 55).toInt by rw [show σ237 42 = σ 42 from ((f239 42 (by decide)).trans (f54 42 (by decide))), show σ237 85 = σ 85 from ((f239 85 (by decide)).trans (f54 85 (by decide))), show (σ237 55 55).toInt = (σ 55 55).toInt from by omega]; exact hr9), (fun k hk => by rw [show σ237 4 = σ 4 from ((f239 4 (by decide)).trans (f54 4 (by decide))), show σ237 5 = σ 5 from ((f239 5 (by decide)).trans (f54 5 (by decide))), show σ237 60 = σ 60 from ((f239 60 (by decide)).trans (f54 60 (by decide))), show σ237 61 = σ 61 from ((f239 61 (by decide)).trans (f54 61 (by decide)))]; exact hr10 k (by omega)), (fun nm => by rw [show σ237 19 = σ 19 from ((f239 19 (by decide)).trans (f54 19 (by decide))), show σ237 64 = σ 64 from ((f239 64 (by decide)).trans (f54 64 (by decide))), show σ237 65 = σ 65 from ((f239 65 (by decide)).trans (f54 65 (by decide))), show (σ237 18 0).toInt = (σ 18 0).toInt from by omega]; exact hr11 nm), (fun nm => by rw [show σ237 23 = σ 23 from ((f239 23 (by decide)).trans (f54 23 (by decide))), show σ237 64 = σ 64 from ((f239 64 (by decide)).trans (f54 64 (by decide))), show σ237 65 = σ 65 from ((f239 65 (by decide)).trans (f54 65 (by decide))), show (σ237 22 0).toInt = (σ 22 0).toInt from by omega]; exact hr12 nm)⟩ hP hS (lv_sub hl [0, 1, 2, 3] rfl)
